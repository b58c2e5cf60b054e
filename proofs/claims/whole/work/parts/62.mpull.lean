/-! the reference's PULLS: rows 61 to 64, how many in 60 -/
def mps (h : HF) (m : Nat → Nat) (V : Nat → Nat → Nat) : Prop := hAt h 60 (oA 0 2 (fun j => nI (m j))) ∧ hAt h 61 (oA 0 16 (fun j => nI (V j 0))) ∧ hAt h 62 (oA 0 16 (fun j => nI (V j 1))) ∧ hAt h 63 (oA 0 16 (fun j => nI (V j 2))) ∧ hAt h 64 (oA 0 16 (fun j => nI (V j 3)))
theorem nI_sur (x : Int32) : nI x.toBitVec.toNat = x := by
  apply Int32.toBitVec_inj.1
  show BitVec.ofNat 32 x.toBitVec.toNat = x.toBitVec
  rw [BitVec.ofNat_toNat, BitVec.setWidth_eq]
def nearB (near : Nat) (v w : Nat → Nat) : Bool := decide (v 0 = w 0) && (decide (w 1 ≤ v 2 + 1 + near) && decide (v 1 ≤ w 2 + 1 + near))
theorem nearB_iff {near : Nat} {v w : Nat → Nat} : nearB near v w = true ↔ v 0 = w 0 ∧ w 1 ≤ v 2 + 1 + near ∧ v 1 ≤ w 2 + 1 + near := by simp [nearB]
theorem nearB_sym {near : Nat} {v w : Nat → Nat} (h : ¬ nearB near v w = true) : ¬ nearB near w v = true := fun z => h (by have z := nearB_iff.mp z; exact nearB_iff.mpr ⟨z.1.symm, z.2.2, z.2.1⟩)
def mgM (v w : Nat → Nat) : Nat → Nat := fun k => if k = 1 then min (v 1) (w 1) else if k = 2 then max (v 2) (w 2) else if k = 3 then v 3 ||| w 3 else v k
theorem upd_m {m : Nat → Nat} {l x : Nat} : upd (fun j => nI (m j)) l (nI x) = fun j => nI (if j = l then x else m j) := by
  funext j
  unfold upd
  split <;> rfl
section
variable {X : Cx} {h : HF} {D : DS} {tb : Int32} {F : Nat → Nat → Int32} {m : Nat → Nat} {V : Nat → Nat → Nat}
theorem mps_of (p : mdAt h D tb F) : ∃ m V, mps h m V := by
  obtain ⟨⟨f0, a0⟩, a, -⟩ := p.2.2.2.2.2.2.2.1
  obtain ⟨f1, a1⟩ := a 0 (by decide)
  obtain ⟨f2, a2⟩ := a 1 (by decide)
  obtain ⟨f3, a3⟩ := a 2 (by decide)
  obtain ⟨f4, a4⟩ := a 3 (by decide)
  refine ⟨fun j => (f0 j).toBitVec.toNat, fun j k => if k = 0 then (f1 j).toBitVec.toNat else if k = 1 then (f2 j).toBitVec.toNat else if k = 2 then (f3 j).toBitVec.toNat else (f4 j).toBitVec.toNat, ?_, ?_, ?_, ?_, ?_⟩
  · rw [show (fun j => nI (f0 j).toBitVec.toNat) = f0 from funext fun j => nI_sur _]; exact a0
  · rw [show (fun j => nI (if 0 = 0 then (f1 j).toBitVec.toNat else if 0 = 1 then (f2 j).toBitVec.toNat else if 0 = 2 then (f3 j).toBitVec.toNat else (f4 j).toBitVec.toNat)) = f1 from funext fun j => nI_sur _]; exact a1
  · rw [show (fun j => nI (if 1 = 0 then (f1 j).toBitVec.toNat else if 1 = 1 then (f2 j).toBitVec.toNat else if 1 = 2 then (f3 j).toBitVec.toNat else (f4 j).toBitVec.toNat)) = f2 from funext fun j => nI_sur _]; exact a2
  · rw [show (fun j => nI (if 2 = 0 then (f1 j).toBitVec.toNat else if 2 = 1 then (f2 j).toBitVec.toNat else if 2 = 2 then (f3 j).toBitVec.toNat else (f4 j).toBitVec.toNat)) = f3 from funext fun j => nI_sur _]; exact a3
  · rw [show (fun j => nI (if 3 = 0 then (f1 j).toBitVec.toNat else if 3 = 1 then (f2 j).toBitVec.toNat else if 3 = 2 then (f3 j).toBitVec.toNat else (f4 j).toBitVec.toNat)) = f4 from funext fun j => nI_sur _]; exact a4
theorem md_ps {h' : HF} {m' : Nat → Nat} {V' : Nat → Nat → Nat} (p : mdAt h D tb F) (o : offB h h' 60 65) (q : mps h' m' V') : mdAt h' D tb F := by
  obtain ⟨-, -, ⟨f3, a3⟩, ⟨f4, a4⟩⟩ := p.2.2.2.2.2.2.2.1
  refine md_off p (hAt_off p.1 o (by omega)) (fun b hb => o b (by omega)) ⟨⟨_, q.1⟩, fun k hk => ?_, ⟨f3, hAt_off a3 o (by omega)⟩, ⟨f4, hAt_off a4 o (by omega)⟩⟩
  rcases (show k = 0 ∨ k = 1 ∨ k = 2 ∨ k = 3 by omega) with rfl | rfl | rfl | rfl
  · exact ⟨_, q.2.1⟩
  · exact ⟨_, q.2.2.1⟩
  · exact ⟨_, q.2.2.2.1⟩
  · exact ⟨_, q.2.2.2.2⟩
theorem mps_put (q : mps h m V) {i : Nat} {v : Nat → Nat} : mps (hu (hu (hu (hu h 61 (oA 0 16 (upd (fun j => nI (V j 0)) i (nI (v 0))))) 62 (oA 0 16 (upd (fun j => nI (V j 1)) i (nI (v 1))))) 63 (oA 0 16 (upd (fun j => nI (V j 2)) i (nI (v 2))))) 64 (oA 0 16 (upd (fun j => nI (V j 3)) i (nI (v 3))))) m (eset V i v) := by
  obtain ⟨h0, h1, h2, h3, h4⟩ := q
  rw [upd_eset, upd_eset, upd_eset, upd_eset]
  exact ⟨hAt_ne (hAt_ne (hAt_ne (hAt_ne h0 (by omega)) (by omega)) (by omega)) (by omega), hAt_ne (hAt_ne (hAt_ne (hAt_s h1.1) (by omega)) (by omega)) (by omega), hAt_ne (hAt_ne (hAt_s h2.1) (by omega)) (by omega), hAt_ne (hAt_s h3.1) (by omega), hAt_s h4.1⟩
theorem mps_mrg (q : mps h m V) {i : Nat} {v : Nat → Nat} (e0 : v 0 = V i 0) : mps (hu (hu (hu h 62 (oA 0 16 (upd (fun j => nI (V j 1)) i (nI (v 1))))) 63 (oA 0 16 (upd (fun j => nI (V j 2)) i (nI (v 2))))) 64 (oA 0 16 (upd (fun j => nI (V j 3)) i (nI (v 3))))) m (eset V i v) := by
  obtain ⟨h0, h1, h2, h3, h4⟩ := q
  rw [upd_eset, upd_eset, upd_eset]
  refine ⟨hAt_ne (hAt_ne (hAt_ne h0 (by omega)) (by omega)) (by omega), ?_, hAt_ne (hAt_ne (hAt_s h2.1) (by omega)) (by omega), hAt_ne (hAt_s h3.1) (by omega), hAt_s h4.1⟩
  rw [eset_same0 e0]
  exact hAt_ne (hAt_ne (hAt_ne h1 (by omega)) (by omega)) (by omega)
theorem mps_m (q : mps h m V) {l x : Nat} : mps (hu h 60 (oA 0 2 (upd (fun j => nI (m j)) l (nI x)))) (fun j => if j = l then x else m j) V := by
  obtain ⟨h0, h1, h2, h3, h4⟩ := q
  rw [upd_m]
  exact ⟨hAt_s h0.1, hAt_ne h1 (by omega), hAt_ne h2 (by omega), hAt_ne h3 (by omega), hAt_ne h4 (by omega)⟩
theorem m_copies (h0 : hAt h 51 (moB tb (dfi D))) (q : mps h m V) {i j : Nat} (hi : i < 16) (hj : j < 16) : Ct X mX7_copies 0 [.ref 51, .int (nI i), .int (nI j)] h (fun r h' => r = none ∧ mps h' m (eset V j (V i)) ∧ offB h h' 60 65) := by
  obtain ⟨-, h1, h2, h3, h4⟩ := id q
  refine Ct_of jmX7_copies [some (.ref 51), some (.int (nI i)), some (.int (nI j))] (Nat.le_of_ble_eq_true rfl) rfl ?_
  show J X RX7 cX7_copies 3 _ none _ 0 _ _ _
  refine J_aload_0 dX7_copies_0 ?_
  refine J_get dX7_copies_1 fl_X7_37 h0 rfl ?_
  refine J_iload_2 dX7_copies_4 ?_
  refine J_aload_0 dX7_copies_5 ?_
  refine J_get dX7_copies_6 fl_X7_37 h0 rfl ?_
  refine J_iload_1 dX7_copies_9 ?_
  refine J_iald dX7_copies_10 h1 rfl hi (by omega) ?_
  refine J_iast dX7_copies_11 h1 rfl hj (by omega) ?_
  refine J_aload_0 dX7_copies_12 ?_
  refine J_get dX7_copies_13 fl_X7_40 (hAt_ne h0 (by omega)) rfl ?_
  refine J_iload_2 dX7_copies_16 ?_
  refine J_aload_0 dX7_copies_17 ?_
  refine J_get dX7_copies_18 fl_X7_40 (hAt_ne h0 (by omega)) rfl ?_
  refine J_iload_1 dX7_copies_21 ?_
  refine J_iald dX7_copies_22 (hAt_ne h2 (by omega)) rfl hi (by omega) ?_
  refine J_iast dX7_copies_23 (hAt_ne h2 (by omega)) rfl hj (by omega) ?_
  refine J_aload_0 dX7_copies_24 ?_
  refine J_get dX7_copies_25 fl_X7_43 (hAt_ne (hAt_ne h0 (by omega)) (by omega)) rfl ?_
  refine J_iload_2 dX7_copies_28 ?_
  refine J_aload_0 dX7_copies_29 ?_
  refine J_get dX7_copies_30 fl_X7_43 (hAt_ne (hAt_ne h0 (by omega)) (by omega)) rfl ?_
  refine J_iload_1 dX7_copies_33 ?_
  refine J_iald dX7_copies_34 (hAt_ne (hAt_ne h3 (by omega)) (by omega)) rfl hi (by omega) ?_
  refine J_iast dX7_copies_35 (hAt_ne (hAt_ne h3 (by omega)) (by omega)) rfl hj (by omega) ?_
  refine J_aload_0 dX7_copies_36 ?_
  refine J_get dX7_copies_37 fl_X7_46 (hAt_ne (hAt_ne (hAt_ne h0 (by omega)) (by omega)) (by omega)) rfl ?_
  refine J_iload_2 dX7_copies_40 ?_
  refine J_aload_0 dX7_copies_41 ?_
  refine J_get dX7_copies_42 fl_X7_46 (hAt_ne (hAt_ne (hAt_ne h0 (by omega)) (by omega)) (by omega)) rfl ?_
  refine J_iload_1 dX7_copies_45 ?_
  refine J_iald dX7_copies_46 (hAt_ne (hAt_ne (hAt_ne h4 (by omega)) (by omega)) (by omega)) rfl hi (by omega) ?_
  refine J_iast dX7_copies_47 (hAt_ne (hAt_ne (hAt_ne h4 (by omega)) (by omega)) (by omega)) rfl hj (by omega) ?_
  exact J_vret dX7_copies_48 rfl (⟨rfl, mps_put (v := V i) q, (((offB.rf.hu (by omega) (by omega)).hu (by omega) (by omega)).hu (by omega) (by omega)).hu (by omega) (by omega)⟩)
theorem m_areNear (p : mdAt h D tb F) (q : mps h m V) {a b : Nat} (ha : a < 16) (hb : b < 16) (pa : spP (V a)) (pb : spP (V b)) : CtI X mX7_areNear 0 [.ref 51, .int (nI a), .int (nI b)] h (bI (nearB (dst D 2) (V a) (V b) = true)) := by
  obtain ⟨h0, -, -, -, ⟨fs, hfs, hfs0⟩, -⟩ := id p
  obtain ⟨-, h1, h2, h3, h4⟩ := id q
  have k2 := p.2.2.2.2.2.2.2.2.2.2.1
  have f2 := hfs0 2 (by decide)
  obtain ⟨a0, a1, a2, a3⟩ := pa
  obtain ⟨b0, b1, b2, b3⟩ := pb
  have g1 := gapI (f := V b 1) (l := V a 2) (w := dst D 2) (by omega) (by omega) (by omega)
  have g2 := gapI (f := V a 1) (l := V b 2) (w := dst D 2) (by omega) (by omega) (by omega)
  refine Ct_of jmX7_areNear [some (.ref 51), some (.int (nI a)), some (.int (nI b))] (Nat.le_of_ble_eq_true rfl) rfl ?_
  show J X RX7 cX7_areNear 3 _ (some .boolean) _ 0 _ _ _
  refine J_aload_0 dX7_areNear_0 ?_
  refine J_get dX7_areNear_1 fl_X7_37 h0 rfl ?_
  refine J_iload_1 dX7_areNear_4 ?_
  refine J_iald dX7_areNear_5 h1 rfl ha (by omega) ?_
  refine J_aload_0 dX7_areNear_6 ?_
  refine J_get dX7_areNear_7 fl_X7_37 h0 rfl ?_
  refine J_iload_2 dX7_areNear_10 ?_
  refine J_iald dX7_areNear_11 h1 rfl hb (by omega) ?_
  first | refine J_icmp_neN (tgt := 67) dX7_areNear_12 (by decide) (by omega) (by omega) (fun c12 => ?_) (fun c12 => ?_) | refine J_icmp_ne (tgt := 67) dX7_areNear_12 (by decide) (fun c12 => ?_) (fun c12 => ?_)
  · have e : bI (nearB (dst D 2) (V a) (V b) = true) = 0 := bI_f (fun z => by have z := nearB_iff.mp z; first | exact c12 z.1 | exact absurd (g1.mp c36) (Nat.not_lt.mpr z.2.1) | exact absurd (g2.mp c60) (Nat.not_lt.mpr z.2.2))
    refine J_iconst (v := nI 0) dX7_areNear_67 (by decide) ?_
    exact J_zret dX7_areNear_68 rfl (by first | exact Or.inl rfl | exact Or.inr rfl | exact bI_01 _) (⟨by rw [e]; rfl, rfl⟩)
  · refine J_aload_0 dX7_areNear_15 ?_
    refine J_get dX7_areNear_16 fl_X7_40 h0 rfl ?_
    refine J_iload_2 dX7_areNear_19 ?_
    refine J_iald dX7_areNear_20 h2 rfl hb (by omega) ?_
    refine J_aload_0 dX7_areNear_21 ?_
    refine J_get dX7_areNear_22 fl_X7_43 h0 rfl ?_
    refine J_iload_1 dX7_areNear_25 ?_
    refine J_iald dX7_areNear_26 h3 rfl ha (by omega) ?_
    refine J_isub dX7_areNear_27 ?_
    refine J_iconst (v := nI 1) dX7_areNear_28 (by decide) ?_
    refine J_isub dX7_areNear_29 ?_
    refine J_aload_0 dX7_areNear_30 ?_
    refine J_get dX7_areNear_31 fl_X7_28 h0 rfl ?_
    refine J_iconst (v := nI 2) dX7_areNear_34 (by decide) ?_
    refine J_iald dX7_areNear_35 hfs rfl (by omega) (by omega) ?_
    refine J_topi (b := nI (dst D 2)) (f2) ?_
    refine J_icmp_gt (tgt := 67) dX7_areNear_36 (by decide) (fun c36 => ?_) (fun c36 => ?_)
    · have e : bI (nearB (dst D 2) (V a) (V b) = true) = 0 := bI_f (fun z => by have z := nearB_iff.mp z; first | exact c12 z.1 | exact absurd (g1.mp c36) (Nat.not_lt.mpr z.2.1) | exact absurd (g2.mp c60) (Nat.not_lt.mpr z.2.2))
      refine J_iconst (v := nI 0) dX7_areNear_67 (by decide) ?_
      exact J_zret dX7_areNear_68 rfl (by first | exact Or.inl rfl | exact Or.inr rfl | exact bI_01 _) (⟨by rw [e]; rfl, rfl⟩)
    · refine J_aload_0 dX7_areNear_39 ?_
      refine J_get dX7_areNear_40 fl_X7_40 h0 rfl ?_
      refine J_iload_1 dX7_areNear_43 ?_
      refine J_iald dX7_areNear_44 h2 rfl ha (by omega) ?_
      refine J_aload_0 dX7_areNear_45 ?_
      refine J_get dX7_areNear_46 fl_X7_43 h0 rfl ?_
      refine J_iload_2 dX7_areNear_49 ?_
      refine J_iald dX7_areNear_50 h3 rfl hb (by omega) ?_
      refine J_isub dX7_areNear_51 ?_
      refine J_iconst (v := nI 1) dX7_areNear_52 (by decide) ?_
      refine J_isub dX7_areNear_53 ?_
      refine J_aload_0 dX7_areNear_54 ?_
      refine J_get dX7_areNear_55 fl_X7_28 h0 rfl ?_
      refine J_iconst (v := nI 2) dX7_areNear_58 (by decide) ?_
      refine J_iald dX7_areNear_59 hfs rfl (by omega) (by omega) ?_
      refine J_topi (b := nI (dst D 2)) (f2) ?_
      refine J_icmp_gt (tgt := 67) dX7_areNear_60 (by decide) (fun c60 => ?_) (fun c60 => ?_)
      · have e : bI (nearB (dst D 2) (V a) (V b) = true) = 0 := bI_f (fun z => by have z := nearB_iff.mp z; first | exact c12 z.1 | exact absurd (g1.mp c36) (Nat.not_lt.mpr z.2.1) | exact absurd (g2.mp c60) (Nat.not_lt.mpr z.2.2))
        refine J_iconst (v := nI 0) dX7_areNear_67 (by decide) ?_
        exact J_zret dX7_areNear_68 rfl (by first | exact Or.inl rfl | exact Or.inr rfl | exact bI_01 _) (⟨by rw [e]; rfl, rfl⟩)
      · have e : bI (nearB (dst D 2) (V a) (V b) = true) = 1 := bI_t (nearB_iff.mpr ⟨c12, Nat.le_of_not_lt (fun z => c36 (g1.mpr z)), Nat.le_of_not_lt (fun z => c60 (g2.mpr z))⟩)
        refine J_iconst (v := nI 1) dX7_areNear_63 (by decide) ?_
        refine J_goto (tgt := 68) dX7_areNear_64 (by decide) ?_
        exact J_zret dX7_areNear_68 rfl (by first | exact Or.inl rfl | exact Or.inr rfl | exact bI_01 _) (⟨by rw [e]; rfl, rfl⟩)
theorem m_isAhead (h0 : hAt h 51 (moB tb (dfi D))) (q : mps h m V) {a b : Nat} (ha : a < 16) (hb : b < 16) (pa : spP (V a)) (pb : spP (V b)) : CtI X mX7_isAhead 0 [.ref 51, .int (nI a), .int (nI b)] h (bI (behB (V b) (V a) = true)) := by
  obtain ⟨-, h1, h2, h3, h4⟩ := id q
  obtain ⟨a0, a1, a2, a3⟩ := pa
  obtain ⟨b0, b1, b2, b3⟩ := pb
  refine Ct_of jmX7_isAhead [some (.ref 51), some (.int (nI a)), some (.int (nI b))] (Nat.le_of_ble_eq_true rfl) rfl ?_
  show J X RX7 cX7_isAhead 3 _ (some .boolean) _ 0 _ _ _
  refine J_aload_0 dX7_isAhead_0 ?_
  refine J_get dX7_isAhead_1 fl_X7_37 h0 rfl ?_
  refine J_iload_1 dX7_isAhead_4 ?_
  refine J_iald dX7_isAhead_5 h1 rfl ha (by omega) ?_
  refine J_aload_0 dX7_isAhead_6 ?_
  refine J_get dX7_isAhead_7 fl_X7_37 h0 rfl ?_
  refine J_iload_2 dX7_isAhead_10 ?_
  refine J_iald dX7_isAhead_11 h1 rfl hb (by omega) ?_
  first | refine J_icmp_eqN (tgt := 38) dX7_isAhead_12 (by decide) (by omega) (by omega) (fun c12 => ?_) (fun c12 => ?_) | refine J_icmp_eq (tgt := 38) dX7_isAhead_12 (by decide) (fun c12 => ?_) (fun c12 => ?_)
  · refine J_aload_0 dX7_isAhead_38 ?_
    refine J_get dX7_isAhead_39 fl_X7_40 h0 rfl ?_
    refine J_iload_1 dX7_isAhead_42 ?_
    refine J_iald dX7_isAhead_43 h2 rfl ha (by omega) ?_
    refine J_aload_0 dX7_isAhead_44 ?_
    refine J_get dX7_isAhead_45 fl_X7_40 h0 rfl ?_
    refine J_iload_2 dX7_isAhead_48 ?_
    refine J_iald dX7_isAhead_49 h2 rfl hb (by omega) ?_
    first | refine J_icmp_geN (tgt := 57) dX7_isAhead_50 (by decide) (by omega) (by omega) (fun c50 => ?_) (fun c50 => ?_) | refine J_icmp_ge (tgt := 57) dX7_isAhead_50 (by decide) (fun c50 => ?_) (fun c50 => ?_)
    · have e : bI (behB (V b) (V a) = true) = 0 := bI_f (fun z => by have z := behB_iff.mp z; unfold beh at z; omega)
      refine J_iconst (v := nI 0) dX7_isAhead_57 (by decide) ?_
      exact J_zret dX7_isAhead_58 rfl (by first | exact Or.inl rfl | exact Or.inr rfl | exact bI_01 _) (⟨by rw [e]; rfl, rfl⟩)
    · have e : bI (behB (V b) (V a) = true) = 1 := bI_t (behB_iff.mpr (by unfold beh; omega))
      refine J_iconst (v := nI 1) dX7_isAhead_53 (by decide) ?_
      refine J_goto (tgt := 58) dX7_isAhead_54 (by decide) ?_
      exact J_zret dX7_isAhead_58 rfl (by first | exact Or.inl rfl | exact Or.inr rfl | exact bI_01 _) (⟨by rw [e]; rfl, rfl⟩)
  · refine J_aload_0 dX7_isAhead_15 ?_
    refine J_get dX7_isAhead_16 fl_X7_37 h0 rfl ?_
    refine J_iload_1 dX7_isAhead_19 ?_
    refine J_iald dX7_isAhead_20 h1 rfl ha (by omega) ?_
    refine J_aload_0 dX7_isAhead_21 ?_
    refine J_get dX7_isAhead_22 fl_X7_37 h0 rfl ?_
    refine J_iload_2 dX7_isAhead_25 ?_
    refine J_iald dX7_isAhead_26 h1 rfl hb (by omega) ?_
    first | refine J_icmp_geN (tgt := 34) dX7_isAhead_27 (by decide) (by omega) (by omega) (fun c27 => ?_) (fun c27 => ?_) | refine J_icmp_ge (tgt := 34) dX7_isAhead_27 (by decide) (fun c27 => ?_) (fun c27 => ?_)
    · have e : bI (behB (V b) (V a) = true) = 0 := bI_f (fun z => by have z := behB_iff.mp z; unfold beh at z; omega)
      refine J_iconst (v := nI 0) dX7_isAhead_34 (by decide) ?_
      refine J_goto (tgt := 58) dX7_isAhead_35 (by decide) ?_
      exact J_zret dX7_isAhead_58 rfl (by first | exact Or.inl rfl | exact Or.inr rfl | exact bI_01 _) (⟨by rw [e]; rfl, rfl⟩)
    · have e : bI (behB (V b) (V a) = true) = 1 := bI_t (behB_iff.mpr (by unfold beh; omega))
      refine J_iconst (v := nI 1) dX7_isAhead_30 (by decide) ?_
      refine J_goto (tgt := 58) dX7_isAhead_31 (by decide) ?_
      exact J_zret dX7_isAhead_58 rfl (by first | exact Or.inl rfl | exact Or.inr rfl | exact bI_01 _) (⟨by rw [e]; rfl, rfl⟩)
theorem gd_join {l w n i j : Nat} (h : gd D l w n (fun t => V (8 * l + t))) (hij : i < j) (hj : j < n) (hn : nearB (dst D 2) (V (8 * l + i)) (V (8 * l + j)) = true) : gd D l w (n - 1) (fun t => eset (eset V (8 * l + i) (mgM (V (8 * l + i)) (V (8 * l + j)))) (8 * l + j) (eset V (8 * l + i) (mgM (V (8 * l + i)) (V (8 * l + j))) (8 * l + (n - 1))) (8 * l + t)) := by
  have hn := nearB_iff.mp hn
  have sm : sok D l w (mgM (V (8 * l + i)) (V (8 * l + j))) := sok_mrg (h.1 i (by omega)) (h.1 j hj) hn.1 hn.2.1 hn.2.2 rfl rfl rfl rfl
  have ei : ∀ t, t ≠ i → eset V (8 * l + i) (mgM (V (8 * l + i)) (V (8 * l + j))) (8 * l + t) = V (8 * l + t) := fun t ht => eset_n (by omega)
  refine ⟨fun t ht => ?_, fun e he hw => ?_⟩
  · show sok D l w (eset _ _ _ _)
    by_cases z : t = j
    · rw [z, eset_s, ei _ (by omega)]; exact h.1 (n - 1) (by omega)
    · rw [eset_n (by omega)]
      by_cases y : t = i
      · rw [y, eset_s]; exact sm
      · rw [ei t y]; exact h.1 t (by omega)
  · obtain ⟨s, hs, hb⟩ := h.2 e he hw
    have hb : (V (8 * l + s) 3).testBit e = true := hb
    by_cases z : s = i ∨ s = j
    · refine ⟨i, by omega, ?_⟩
      show (eset _ _ _ _ 3).testBit e = true
      rw [eset_n (by omega), eset_s]
      show (V (8 * l + i) 3 ||| V (8 * l + j) 3).testBit e = true
      rw [Nat.testBit_or]
      rcases z with z | z
      · rw [← z, hb, Bool.true_or]
      · rw [← z, hb, Bool.or_true]
    · by_cases y : s = n - 1
      · refine ⟨j, by omega, ?_⟩
        show (eset _ _ _ _ 3).testBit e = true
        rw [eset_s, ei _ (by omega), ← y]
        exact hb
      · refine ⟨s, by omega, ?_⟩
        show (eset _ _ _ _ 3).testBit e = true
        rw [eset_n (by omega), ei _ (by omega)]
        exact hb
/-- what a call of joins comes to -/
def jQ (D : DS) (l w : Nat) (h : HF) (m : Nat → Nat) (V : Nat → Nat → Nat) (r : Option Value) (h' : HF) : Prop := (r = some (.int 1) ∧ offB h h' 60 65 ∧ ∃ m' V', mps h' m' V' ∧ m' l + 1 = m l ∧ 1 ≤ m' l ∧ (∀ j, j ≠ l → m' j = m j) ∧ (∀ j, (j < 8 * l ∨ 8 * l + 8 ≤ j) → V' j = V j) ∧ gd D l w (m' l) (fun t => V' (8 * l + t))) ∨ (r = some (.int 0) ∧ h' = h ∧ ∀ a b, a < b → b < m l → ¬ nearB (dst D 2) (V (8 * l + a)) (V (8 * l + b)) = true)
theorem l_mjoinJ (p : mdAt h D tb F) (q : mps h m V) {l w i : Nat} (hl : l < 2) (h8 : m l ≤ 8) (hg : gd D l w (m l) (fun t => V (8 * l + t))) (hi : i < m l) (kk : ∀ (j : Nat) o4 o5, (∀ b, i < b → b < m l → ¬ nearB (dst D 2) (V (8 * l + i)) (V (8 * l + b)) = true) → J X RX7 cX7_joins 6 1 (some .boolean) (jQ D l w h m V) 153 [some (.ref 51), some (.int (nI l)), some (.int (nI i)), some (.int (nI j)), o4, o5] [] h) :
    ∀ (k j : Nat) (o4 o5 : Option Value), j + k = m l → i < j → (∀ b, i < b → b < j → ¬ nearB (dst D 2) (V (8 * l + i)) (V (8 * l + b)) = true) → J X RX7 cX7_joins 6 1 (some .boolean) (jQ D l w h m V) 16 [some (.ref 51), some (.int (nI l)), some (.int (nI i)), some (.int (nI j)), o4, o5] [] h := by
  have h0 := p.1
  obtain ⟨q0, q1, q2, q3, q4⟩ := id q
  intro k
  induction k with
  | zero =>
    intro j o4 o5 hj hij hn
    refine J_iload_3 dX7_joins_16 ?_
    refine J_aload_0 dX7_joins_17 ?_
    refine J_get dX7_joins_18 fl_X7_34 h0 rfl ?_
    refine J_iload_1 dX7_joins_21 ?_
    refine J_iald dX7_joins_22 q0 rfl (by omega) (by omega) ?_
    refine J_icmp_geN (tgt := 153) dX7_joins_23 (by decide) (by omega) (by omega) (fun _ => ?_) (fun c => absurd c (by omega))
    exact kk j _ _ (fun b h1 h2 => hn b h1 (by omega))
  | succ k ih =>
    intro j o4 o5 hj hij hn
    have pa := (hg.1 i hi).1
    have pb := (hg.1 j (by omega)).1
    have hnr := m_areNear (X := X) p q (a := 8 * l + i) (b := 8 * l + j) (by omega) (by omega) pa pb
    by_cases c : nearB (dst D 2) (V (8 * l + i)) (V (8 * l + j)) = true
    · rw [bI_t c] at hnr
      obtain ⟨pa0, pa1, pa2, pa3⟩ : spP (V (8 * l + i)) := pa
      obtain ⟨pb0, pb1, pb2, pb3⟩ : spP (V (8 * l + j)) := pb
      have Q1 := mps_mrg q (i := 8 * l + i) (v := mgM (V (8 * l + i)) (V (8 * l + j))) rfl
      have O1 : offB h (hu (hu (hu h 62 (oA 0 16 (upd (fun j => nI (V j 1)) (8 * l + i) (nI (mgM (V (8 * l + i)) (V (8 * l + j)) 1))))) 63 (oA 0 16 (upd (fun j => nI (V j 2)) (8 * l + i) (nI (mgM (V (8 * l + i)) (V (8 * l + j)) 2))))) 64 (oA 0 16 (upd (fun j => nI (V j 3)) (8 * l + i) (nI (mgM (V (8 * l + i)) (V (8 * l + j)) 3))))) 60 65 := ((offB.rf.hu (by omega) (by omega)).hu (by omega) (by omega)).hu (by omega) (by omega)
      have key : ∀ h2, mps h2 m (eset V (8 * l + i) (mgM (V (8 * l + i)) (V (8 * l + j)))) → offB h h2 60 65 → J X RX7 cX7_joins 6 1 (some .boolean) (jQ D l w h m V) 118 [some (.ref 51), some (.int (nI l)), some (.int (nI i)), some (.int (nI j)), some (.int (nI (8 * l + i))), some (.int (nI (8 * l + j)))] [] h2 := by
        intro h2 Q2 O2
        have k0 := hAt_off h0 O2 (by omega)
        have Q3 := mps_m Q2 (l := l) (x := m l - 1)
        have O3 : offB h (hu h2 60 (oA 0 2 (upd (fun j => nI (m j)) l (nI (m l - 1))))) 60 65 := O2.hu (by omega) (by omega)
        have z0 := Q2.1
        refine J_aload_0 dX7_joins_118 ?_
        refine J_get dX7_joins_119 fl_X7_34 k0 rfl ?_
        refine J_iload_1 dX7_joins_122 ?_
        refine J_dup2 dX7_joins_123 rfl rfl ?_
        refine J_iald dX7_joins_124 z0 rfl (by omega) (by omega) ?_
        refine J_topi (b := nI (m l)) (rfl) ?_
        refine J_iconst (v := nI 1) dX7_joins_125 (by decide) ?_
        first | refine J_isubN dX7_joins_126 (by omega) ?_ | refine J_isub dX7_joins_126 ?_
        refine J_iast dX7_joins_127 z0 rfl (by omega) (by omega) ?_
        generalize hu h2 60 (oA 0 2 (upd (fun j => nI (m j)) l (nI (m l - 1)))) = h3 at Q3 O3 ⊢
        refine J_aload_0 dX7_joins_128 ?_
        refine J_bipush (v := nI 8) dX7_joins_129 (by decide) ?_
        refine J_iload_1 dX7_joins_131 ?_
        first | refine J_imulN dX7_joins_132 ?_ | refine J_imul dX7_joins_132 ?_
        refine J_aload_0 dX7_joins_133 ?_
        refine J_get dX7_joins_134 fl_X7_34 (hAt_off h0 O3 (by omega)) rfl ?_
        refine J_iload_1 dX7_joins_137 ?_
        refine J_iald dX7_joins_138 Q3.1 rfl (by omega) (by omega) ?_
        refine J_topi (b := nI (m l - 1)) (congrArg nI (if_pos rfl)) ?_
        first | refine J_iaddN dX7_joins_139 ?_ | refine J_iadd dX7_joins_139 ?_
        refine J_iload_5 dX7_joins_140 ?_
        refine J_cV2 dX7_joins_142 jmX7_copies mv_X7_155 (hAt_off h0 O3 (by omega)) rfl (Nat.le_of_ble_eq_true rfl) (by decide) (m_copies (tb := tb) (D := D) (hAt_off h0 O3 (by omega)) Q3 (by omega) (by omega)) (fun r h' q => ?_)
        obtain ⟨rfl, Q4, O4⟩ := q
        refine J_iconst (v := nI 1) dX7_joins_145 (by decide) ?_
        exact J_zret dX7_joins_146 rfl (by first | exact Or.inl rfl | exact Or.inr rfl | exact bI_01 _) (Or.inl ⟨rfl, O3.tr O4, _, _, Q4, by show (if l = l then m l - 1 else m l) + 1 = m l; rw [if_pos rfl]; omega, by show 1 ≤ (if l = l then m l - 1 else m l); rw [if_pos rfl]; omega, fun t ht => if_neg ht, fun t ht => by rw [eset_n (by omega), eset_n (by omega)], by show gd D l w (if l = l then m l - 1 else m l) _; rw [if_pos rfl]; exact gd_join hg hij (by omega) c⟩)
      refine J_iload_3 dX7_joins_16 ?_
      refine J_aload_0 dX7_joins_17 ?_
      refine J_get dX7_joins_18 fl_X7_34 h0 rfl ?_
      refine J_iload_1 dX7_joins_21 ?_
      refine J_iald dX7_joins_22 q0 rfl (by omega) (by omega) ?_
      refine J_icmp_geN (tgt := 153) dX7_joins_23 (by decide) (by omega) (by omega) (fun c => absurd c (by omega)) (fun _ => ?_)
      refine J_bipush (v := nI 8) dX7_joins_26 (by decide) ?_
      refine J_iload_1 dX7_joins_28 ?_
      first | refine J_imulN dX7_joins_29 ?_ | refine J_imul dX7_joins_29 ?_
      refine J_iload_2 dX7_joins_30 ?_
      first | refine J_iaddN dX7_joins_31 ?_ | refine J_iadd dX7_joins_31 ?_
      refine J_istore_4 dX7_joins_32 (Nat.le_of_ble_eq_true rfl) rfl ?_
      refine J_bipush (v := nI 8) dX7_joins_34 (by decide) ?_
      refine J_iload_1 dX7_joins_36 ?_
      first | refine J_imulN dX7_joins_37 ?_ | refine J_imul dX7_joins_37 ?_
      refine J_iload_3 dX7_joins_38 ?_
      first | refine J_iaddN dX7_joins_39 ?_ | refine J_iadd dX7_joins_39 ?_
      refine J_istore_5 dX7_joins_40 (Nat.le_of_ble_eq_true rfl) rfl ?_
      refine J_aload_0 dX7_joins_42 ?_
      refine J_iload_4 dX7_joins_43 ?_
      refine J_iload_5 dX7_joins_45 ?_
      refine J_cV2i dX7_joins_47 jmX7_areNear mv_X7_146 h0 rfl (Nat.le_of_ble_eq_true rfl) (by decide) (hnr) ?_
      refine J_if_eq (tgt := 147) dX7_joins_50 (by decide) (fun c => absurd c (by decide)) (fun _ => ?_)
      refine J_aload_0 dX7_joins_53 ?_
      refine J_get dX7_joins_54 fl_X7_40 h0 rfl ?_
      refine J_iload_4 dX7_joins_57 ?_
      refine J_aload_0 dX7_joins_59 ?_
      refine J_get dX7_joins_60 fl_X7_40 h0 rfl ?_
      refine J_iload_4 dX7_joins_63 ?_
      refine J_iald dX7_joins_65 q2 rfl (by omega) (by omega) ?_
      refine J_aload_0 dX7_joins_66 ?_
      refine J_get dX7_joins_67 fl_X7_40 h0 rfl ?_
      refine J_iload_5 dX7_joins_70 ?_
      refine J_iald dX7_joins_72 q2 rfl (by omega) (by omega) ?_
      refine J_cS2i dX7_joins_73 jmX7_min ms_X7_149 (Nat.le_of_ble_eq_true rfl) (by decide) (m_min) ?_
      refine J_topi (b := nI (min (V (8 * l + i) 1) (V (8 * l + j) 1))) (minN (by omega) (by omega)) ?_
      refine J_iast dX7_joins_76 q2 rfl (by omega) (by omega) ?_
      refine J_aload_0 dX7_joins_77 ?_
      refine J_get dX7_joins_78 fl_X7_43 (hAt_ne h0 (by omega)) rfl ?_
      refine J_iload_4 dX7_joins_81 ?_
      refine J_aload_0 dX7_joins_83 ?_
      refine J_get dX7_joins_84 fl_X7_43 (hAt_ne h0 (by omega)) rfl ?_
      refine J_iload_4 dX7_joins_87 ?_
      refine J_iald dX7_joins_89 (hAt_ne q3 (by omega)) rfl (by omega) (by omega) ?_
      refine J_aload_0 dX7_joins_90 ?_
      refine J_get dX7_joins_91 fl_X7_43 (hAt_ne h0 (by omega)) rfl ?_
      refine J_iload_5 dX7_joins_94 ?_
      refine J_iald dX7_joins_96 (hAt_ne q3 (by omega)) rfl (by omega) (by omega) ?_
      refine J_cS2i dX7_joins_97 jmX7_max ms_X7_152 (Nat.le_of_ble_eq_true rfl) (by decide) (m_max) ?_
      refine J_topi (b := nI (max (V (8 * l + i) 2) (V (8 * l + j) 2))) (maxN (by omega) (by omega)) ?_
      refine J_iast dX7_joins_100 (hAt_ne q3 (by omega)) rfl (by omega) (by omega) ?_
      refine J_aload_0 dX7_joins_101 ?_
      refine J_get dX7_joins_102 fl_X7_46 (hAt_ne (hAt_ne h0 (by omega)) (by omega)) rfl ?_
      refine J_iload_4 dX7_joins_105 ?_
      refine J_dup2 dX7_joins_107 rfl rfl ?_
      refine J_iald dX7_joins_108 (hAt_ne (hAt_ne q4 (by omega)) (by omega)) rfl (by omega) (by omega) ?_
      refine J_aload_0 dX7_joins_109 ?_
      refine J_get dX7_joins_110 fl_X7_46 (hAt_ne (hAt_ne h0 (by omega)) (by omega)) rfl ?_
      refine J_iload_5 dX7_joins_113 ?_
      refine J_iald dX7_joins_115 (hAt_ne (hAt_ne q4 (by omega)) (by omega)) rfl (by omega) (by omega) ?_
      refine J_iorN dX7_joins_116 ?_
      refine J_iast dX7_joins_117 (hAt_ne (hAt_ne q4 (by omega)) (by omega)) rfl (by omega) (by omega) ?_
      exact key _ Q1 O1
    · rw [bI_f c] at hnr
      refine J_iload_3 dX7_joins_16 ?_
      refine J_aload_0 dX7_joins_17 ?_
      refine J_get dX7_joins_18 fl_X7_34 h0 rfl ?_
      refine J_iload_1 dX7_joins_21 ?_
      refine J_iald dX7_joins_22 q0 rfl (by omega) (by omega) ?_
      refine J_icmp_geN (tgt := 153) dX7_joins_23 (by decide) (by omega) (by omega) (fun c => absurd c (by omega)) (fun _ => ?_)
      refine J_bipush (v := nI 8) dX7_joins_26 (by decide) ?_
      refine J_iload_1 dX7_joins_28 ?_
      first | refine J_imulN dX7_joins_29 ?_ | refine J_imul dX7_joins_29 ?_
      refine J_iload_2 dX7_joins_30 ?_
      first | refine J_iaddN dX7_joins_31 ?_ | refine J_iadd dX7_joins_31 ?_
      refine J_istore_4 dX7_joins_32 (Nat.le_of_ble_eq_true rfl) rfl ?_
      refine J_bipush (v := nI 8) dX7_joins_34 (by decide) ?_
      refine J_iload_1 dX7_joins_36 ?_
      first | refine J_imulN dX7_joins_37 ?_ | refine J_imul dX7_joins_37 ?_
      refine J_iload_3 dX7_joins_38 ?_
      first | refine J_iaddN dX7_joins_39 ?_ | refine J_iadd dX7_joins_39 ?_
      refine J_istore_5 dX7_joins_40 (Nat.le_of_ble_eq_true rfl) rfl ?_
      refine J_aload_0 dX7_joins_42 ?_
      refine J_iload_4 dX7_joins_43 ?_
      refine J_iload_5 dX7_joins_45 ?_
      refine J_cV2i dX7_joins_47 jmX7_areNear mv_X7_146 h0 rfl (Nat.le_of_ble_eq_true rfl) (by decide) (hnr) ?_
      refine J_if_eq (tgt := 147) dX7_joins_50 (by decide) (fun _ => ?_) (fun c => absurd (by rfl) c)
      first | refine J_inc_3 dX7_joins_147 (Nat.le_of_ble_eq_true rfl) rfl ?_ | refine J_iinc_3 dX7_joins_147 rfl (Nat.le_of_ble_eq_true rfl) rfl ?_
      refine J_goto (tgt := 16) dX7_joins_150 (by decide) ?_
      exact ih (j + 1) _ _ (by omega) (by omega) (fun b h1 h2 => by by_cases z : b = j; (rw [z]; exact c); exact hn b h1 (by omega))
theorem l_mjoinI (p : mdAt h D tb F) (q : mps h m V) {l w : Nat} (hl : l < 2) (h8 : m l ≤ 8) (hg : gd D l w (m l) (fun t => V (8 * l + t))) :
    ∀ (k i : Nat) (o3 o4 o5 : Option Value), i + k = m l → (∀ a b, a < i → a < b → b < m l → ¬ nearB (dst D 2) (V (8 * l + a)) (V (8 * l + b)) = true) → J X RX7 cX7_joins 6 1 (some .boolean) (jQ D l w h m V) 2 [some (.ref 51), some (.int (nI l)), some (.int (nI i)), o3, o4, o5] [] h := by
  have h0 := p.1
  obtain ⟨q0, q1, q2, q3, q4⟩ := id q
  intro k
  induction k with
  | zero =>
    intro i o3 o4 o5 hi hn
    refine J_iload_2 dX7_joins_2 ?_
    refine J_aload_0 dX7_joins_3 ?_
    refine J_get dX7_joins_4 fl_X7_34 h0 rfl ?_
    refine J_iload_1 dX7_joins_7 ?_
    refine J_iald dX7_joins_8 q0 rfl (by omega) (by omega) ?_
    refine J_icmp_geN (tgt := 159) dX7_joins_9 (by decide) (by omega) (by omega) (fun _ => ?_) (fun c => absurd c (by omega))
    refine J_iconst (v := nI 0) dX7_joins_159 (by decide) ?_
    exact J_zret dX7_joins_160 rfl (by first | exact Or.inl rfl | exact Or.inr rfl | exact bI_01 _) (Or.inr ⟨rfl, rfl, fun a b h1 h2 => hn a b (by omega) h1 h2⟩)
  | succ k ih =>
    intro i o3 o4 o5 hi hn
    refine J_iload_2 dX7_joins_2 ?_
    refine J_aload_0 dX7_joins_3 ?_
    refine J_get dX7_joins_4 fl_X7_34 h0 rfl ?_
    refine J_iload_1 dX7_joins_7 ?_
    refine J_iald dX7_joins_8 q0 rfl (by omega) (by omega) ?_
    refine J_icmp_geN (tgt := 159) dX7_joins_9 (by decide) (by omega) (by omega) (fun c => absurd c (by omega)) (fun _ => ?_)
    refine J_iload_2 dX7_joins_12 ?_
    refine J_iconst (v := nI 1) dX7_joins_13 (by decide) ?_
    first | refine J_iaddN dX7_joins_14 ?_ | refine J_iadd dX7_joins_14 ?_
    refine J_istore_3 dX7_joins_15 (Nat.le_of_ble_eq_true rfl) rfl ?_
    refine l_mjoinJ p q hl h8 hg (by omega) (fun j o4 o5 hq => ?_) (m l - (i + 1)) (i + 1) _ _ (by omega) (by omega) (fun b h1 h2 => by omega)
    first | refine J_inc_2 dX7_joins_153 (Nat.le_of_ble_eq_true rfl) rfl ?_ | refine J_iinc_2 dX7_joins_153 rfl (Nat.le_of_ble_eq_true rfl) rfl ?_
    refine J_goto (tgt := 2) dX7_joins_156 (by decide) ?_
    exact ih (i + 1) _ _ _ (by omega) (fun a b h1 h2 h3 => by by_cases z : a = i; (rw [z]; exact hq b (by omega) h3); exact hn a b (by omega) h2 h3)
theorem m_joins (p : mdAt h D tb F) (q : mps h m V) {l w : Nat} (hl : l < 2) (h8 : m l ≤ 8) (hg : gd D l w (m l) (fun t => V (8 * l + t))) : Ct X mX7_joins 1 [.ref 51, .int (nI l)] h (jQ D l w h m V) := by
  refine Ct_of jmX7_joins [some (.ref 51), some (.int (nI l)), none, none, none, none] (Nat.le_of_ble_eq_true rfl) rfl ?_
  show J X RX7 cX7_joins 6 _ (some .boolean) _ 0 _ _ _
  refine J_iconst (v := nI 0) dX7_joins_0 (by decide) ?_
  refine J_istore_2 dX7_joins_1 (Nat.le_of_ble_eq_true rfl) rfl ?_
  exact l_mjoinI p q hl h8 hg (m l) 0 _ _ _ (by omega) (fun a b h1 => by omega)
end
