/-! the reference COMPARES -/
theorem and1 (x : Int32) : x &&& nI 1 = 0 ∨ x &&& nI 1 = nI 1 := by
  have e : (x &&& nI 1).toBitVec = x.toBitVec &&& 1#32 := rfl
  rw [BitVec.and_one_eq_setWidth_ofBool_getLsbD] at e
  cases hb : x.toBitVec.getLsbD 0 with
  | false => left; rw [hb] at e; exact Int32.toBitVec_inj.1 e
  | true => right; rw [hb] at e; exact Int32.toBitVec_inj.1 e
theorem or0 (t : Int32) : t ||| nI 0 = t := Int32.or_zero
section
variable {X : Cx} {h : HF} {D : DS} {tb : Int32} {F : Nat → Nat → Int32}
theorem m_isIn {t : Int32} {j : Nat} : CtI X mX7_isIn 0 [.int t, .int (nI j)] h (bI (¬ isFr t j = true)) := by
  refine Ct_of jmX7_isIn [some (.int t), some (.int (nI j))] (Nat.le_of_ble_eq_true rfl) rfl ?_
  show J X RX7 cX7_isIn 2 _ (some .boolean) _ 0 _ _ _
  refine J_iload_0 dX7_isIn_0 ?_
  refine J_iload_1 dX7_isIn_1 ?_
  refine J_ishr dX7_isIn_2 ?_
  refine J_iconst (v := nI 1) dX7_isIn_3 (by decide) ?_
  refine J_iand dX7_isIn_4 ?_
  refine J_iconst (v := nI 1) dX7_isIn_5 (by decide) ?_
  refine J_icmp_ne (tgt := 13) dX7_isIn_6 (by decide) (fun c6 => ?_) (fun c6 => ?_)
  · have e : bI (¬ isFr t j = true) = 0 := bI_f (by simp only [isFr, decide_eq_true_eq]; intro z; rcases and1 (t >>> (nI j &&& 31)) with y | y; exact z y; exact c6 y)
    refine J_iconst (v := nI 0) dX7_isIn_13 (by decide) ?_
    exact J_zret dX7_isIn_14 rfl (by first | exact Or.inl rfl | exact Or.inr rfl | exact bI_01 _) (⟨by rw [e]; rfl, rfl⟩)
  · have e : bI (¬ isFr t j = true) = 1 := bI_t (by simp only [isFr, decide_eq_true_eq]; intro z; rw [z] at c6; exact absurd c6 (by decide))
    refine J_iconst (v := nI 1) dX7_isIn_9 (by decide) ?_
    refine J_goto (tgt := 14) dX7_isIn_10 (by decide) ?_
    exact J_zret dX7_isIn_14 rfl (by first | exact Or.inl rfl | exact Or.inr rfl | exact bI_01 _) (⟨by rw [e]; rfl, rfl⟩)
theorem m_isLike (p : mdAt h D tb F) {i j : Nat} (hj : j < dn D 0) (hi : i < dn D 1) : CtI X mX7_isLike 0 [.ref 51, .int (nI j), .int (nI (8 + i))] h (bI (likes (de D 1 i) (de D 0 j) = true)) := by
  obtain ⟨h0, -, ⟨a0, a1, a2, a3, a4⟩, hF, -⟩ := id p
  obtain ⟨hE, ⟨o0, o1, o2, o3, o4, o5, o6⟩, h8⟩ := mdE p (by decide : 0 < 2) hj
  obtain ⟨hE', ⟨u0, u1, u2, u3, u4, u5, u6⟩, h8'⟩ := mdE p (by decide : 1 < 2) hi
  have m1 : de D 0 j 3 * de D 1 i 4 ≤ 36 := Nat.mul_le_mul o4 u6
  have m2 : de D 1 i 3 * de D 0 j 4 ≤ 36 := Nat.mul_le_mul u4 o6
  have x0 : ∀ k, k < 5 → F k j = nI (de D 0 j k) := fun k hk => by have := hF 0 j k (by decide) hj hk; rwa [show 8 * 0 + j = j by omega] at this
  have y0 : ∀ k, k < 5 → F k (8 + i) = nI (de D 1 i k) := fun k hk => by have := hF 1 i k (by decide) hi hk; rwa [show 8 * 1 + i = 8 + i by omega] at this
  refine Ct_of jmX7_isLike [some (.ref 51), some (.int (nI j)), some (.int (nI (8 + i)))] (Nat.le_of_ble_eq_true rfl) rfl ?_
  show J X RX7 cX7_isLike 3 _ (some .boolean) _ 0 _ _ _
  refine J_aload_0 dX7_isLike_0 ?_
  refine J_get dX7_isLike_1 fl_X7_13 h0 rfl ?_
  refine J_iload_1 dX7_isLike_4 ?_
  refine J_iald dX7_isLike_5 a0 rfl (by omega) (by omega) ?_
  refine J_topi (b := nI (de D 0 j 0)) (x0 0 (by decide)) ?_
  refine J_aload_0 dX7_isLike_6 ?_
  refine J_get dX7_isLike_7 fl_X7_13 h0 rfl ?_
  refine J_iload_2 dX7_isLike_10 ?_
  refine J_iald dX7_isLike_11 a0 rfl (by omega) (by omega) ?_
  refine J_topi (b := nI (de D 1 i 0)) (y0 0 (by decide)) ?_
  first | refine J_icmp_neN (tgt := 63) dX7_isLike_12 (by decide) (by omega) (by omega) (fun c12 => ?_) (fun c12 => ?_) | refine J_icmp_ne (tgt := 63) dX7_isLike_12 (by decide) (fun c12 => ?_) (fun c12 => ?_)
  · have e : bI (likes (de D 1 i) (de D 0 j) = true) = 0 := bI_f (fun z => by have z := likes_iff.mp z; first | exact c12 z.1.symm | exact c27 z.2.1.symm | exact c56 z.2.2.symm)
    refine J_iconst (v := nI 0) dX7_isLike_63 (by decide) ?_
    exact J_zret dX7_isLike_64 rfl (by first | exact Or.inl rfl | exact Or.inr rfl | exact bI_01 _) (⟨by rw [e]; rfl, rfl⟩)
  · refine J_aload_0 dX7_isLike_15 ?_
    refine J_get dX7_isLike_16 fl_X7_16 h0 rfl ?_
    refine J_iload_1 dX7_isLike_19 ?_
    refine J_iald dX7_isLike_20 a1 rfl (by omega) (by omega) ?_
    refine J_topi (b := nI (de D 0 j 1)) (x0 1 (by decide)) ?_
    refine J_aload_0 dX7_isLike_21 ?_
    refine J_get dX7_isLike_22 fl_X7_16 h0 rfl ?_
    refine J_iload_2 dX7_isLike_25 ?_
    refine J_iald dX7_isLike_26 a1 rfl (by omega) (by omega) ?_
    refine J_topi (b := nI (de D 1 i 1)) (y0 1 (by decide)) ?_
    first | refine J_icmp_neN (tgt := 63) dX7_isLike_27 (by decide) (by omega) (by omega) (fun c27 => ?_) (fun c27 => ?_) | refine J_icmp_ne (tgt := 63) dX7_isLike_27 (by decide) (fun c27 => ?_) (fun c27 => ?_)
    · have e : bI (likes (de D 1 i) (de D 0 j) = true) = 0 := bI_f (fun z => by have z := likes_iff.mp z; first | exact c12 z.1.symm | exact c27 z.2.1.symm | exact c56 z.2.2.symm)
      refine J_iconst (v := nI 0) dX7_isLike_63 (by decide) ?_
      exact J_zret dX7_isLike_64 rfl (by first | exact Or.inl rfl | exact Or.inr rfl | exact bI_01 _) (⟨by rw [e]; rfl, rfl⟩)
    · refine J_aload_0 dX7_isLike_30 ?_
      refine J_get dX7_isLike_31 fl_X7_22 h0 rfl ?_
      refine J_iload_1 dX7_isLike_34 ?_
      refine J_iald dX7_isLike_35 a3 rfl (by omega) (by omega) ?_
      refine J_topi (b := nI (de D 0 j 3)) (x0 3 (by decide)) ?_
      refine J_aload_0 dX7_isLike_36 ?_
      refine J_get dX7_isLike_37 fl_X7_25 h0 rfl ?_
      refine J_iload_2 dX7_isLike_40 ?_
      refine J_iald dX7_isLike_41 a4 rfl (by omega) (by omega) ?_
      refine J_topi (b := nI (de D 1 i 4)) (y0 4 (by decide)) ?_
      first | refine J_imulN dX7_isLike_42 ?_ | refine J_imul dX7_isLike_42 ?_
      refine J_aload_0 dX7_isLike_43 ?_
      refine J_get dX7_isLike_44 fl_X7_22 h0 rfl ?_
      refine J_iload_2 dX7_isLike_47 ?_
      refine J_iald dX7_isLike_48 a3 rfl (by omega) (by omega) ?_
      refine J_topi (b := nI (de D 1 i 3)) (y0 3 (by decide)) ?_
      refine J_aload_0 dX7_isLike_49 ?_
      refine J_get dX7_isLike_50 fl_X7_25 h0 rfl ?_
      refine J_iload_1 dX7_isLike_53 ?_
      refine J_iald dX7_isLike_54 a4 rfl (by omega) (by omega) ?_
      refine J_topi (b := nI (de D 0 j 4)) (x0 4 (by decide)) ?_
      first | refine J_imulN dX7_isLike_55 ?_ | refine J_imul dX7_isLike_55 ?_
      first | refine J_icmp_neN (tgt := 63) dX7_isLike_56 (by decide) (by omega) (by omega) (fun c56 => ?_) (fun c56 => ?_) | refine J_icmp_ne (tgt := 63) dX7_isLike_56 (by decide) (fun c56 => ?_) (fun c56 => ?_)
      · have e : bI (likes (de D 1 i) (de D 0 j) = true) = 0 := bI_f (fun z => by have z := likes_iff.mp z; first | exact c12 z.1.symm | exact c27 z.2.1.symm | exact c56 z.2.2.symm)
        refine J_iconst (v := nI 0) dX7_isLike_63 (by decide) ?_
        exact J_zret dX7_isLike_64 rfl (by first | exact Or.inl rfl | exact Or.inr rfl | exact bI_01 _) (⟨by rw [e]; rfl, rfl⟩)
      · have e : bI (likes (de D 1 i) (de D 0 j) = true) = 1 := bI_t (likes_iff.mpr ⟨c12.symm, c27.symm, c56.symm⟩)
        refine J_iconst (v := nI 1) dX7_isLike_59 (by decide) ?_
        refine J_goto (tgt := 64) dX7_isLike_60 (by decide) ?_
        exact J_zret dX7_isLike_64 rfl (by first | exact Or.inl rfl | exact Or.inr rfl | exact bI_01 _) (⟨by rw [e]; rfl, rfl⟩)
theorem md_65 (p : mdAt h D tb F) {g : Nat → Int32} : mdAt (hu h 65 (oA 0 8 g)) D tb F := by
  obtain ⟨⟨f1, a1⟩, a2, ⟨f3, a3⟩, ⟨f4, a4⟩⟩ := p.2.2.2.2.2.2.2.1
  refine md_off p (hAt_ne p.1 (by omega)) (fun b hb => hu_ne (by omega)) ⟨⟨f1, hAt_ne a1 (by omega)⟩, fun k hk => ?_, ⟨g, hAt_s a3.1⟩, ⟨f4, hAt_ne a4 (by omega)⟩⟩
  obtain ⟨f, a⟩ := a2 k hk
  exact ⟨f, hAt_ne a (by omega)⟩
theorem md_51 (p : mdAt h D tb F) {t : Int32} : mdAt (hu h 51 (moB t (dfi D))) D t F := md_off p (hAt_s p.1.1) (fun b hb => hu_ne (by omega)) (mScr_o p.2.2.2.2.2.2.2.1 (fun b hb => hu_ne (by omega)))
theorem l_mcmpS {pw : Int32} {i : Nat} (hi : i < 8) {t : Int32} {f : Nat → Int32} {Q : Option Value → HF → Prop} {h1 : HF} {j : Nat} {o4 : Option Value} (hj : j ≤ 8) (p : mdAt h1 D t F) (p65 : hAt h1 65 (oA 0 8 f)) (hf : ¬ f i = -1) (kk : J X RX7 cX7_compares 5 1 none Q 163 [some (.ref 51), some (.int pw), some (.int (nI i)), some (.int (nI j)), o4] [] h1) : J X RX7 cX7_compares 5 1 none Q 47 [some (.ref 51), some (.int pw), some (.int (nI i)), some (.int (nI j)), o4] [] h1 := by
  obtain ⟨h0, ⟨fm, hm, hm0⟩, -⟩ := id p
  have h8 := p.2.2.2.2.2.2.2.2.2.2.2.2.2.1 0 (by decide)
  refine J_iload_3 dX7_compares_47 ?_
  refine J_aload_0 dX7_compares_48 ?_
  refine J_get dX7_compares_49 fl_X7_7 h0 rfl ?_
  refine J_iconst (v := nI 0) dX7_compares_52 (by decide) ?_
  refine J_iald dX7_compares_53 hm rfl (by omega) (by omega) ?_
  refine J_topi (b := nI (dn D 0)) (hm0 0 (by decide)) ?_
  first | refine J_icmp_geN (tgt := 163) dX7_compares_54 (by decide) (by omega) (by omega) (fun c54 => ?_) (fun c54 => ?_) | refine J_icmp_ge (tgt := 163) dX7_compares_54 (by decide) (fun c54 => ?_) (fun c54 => ?_)
  · exact kk
  · refine J_aload_0 dX7_compares_57 ?_
    refine J_get dX7_compares_58 fl_X7_49 h0 rfl ?_
    refine J_iload_2 dX7_compares_61 ?_
    refine J_iald dX7_compares_62 p65 rfl (by omega) (by omega) ?_
    refine J_iconst (v := -1) dX7_compares_63 (by decide) ?_
    refine J_icmp_ne (tgt := 163) dX7_compares_64 (by decide) (fun _ => ?_) (fun c => absurd c hf)
    exact kk
theorem l_mcmpJ {h : HF} {i pw : Nat} {w : Bool} (hpw : (pw = 0 ∧ w = true) ∨ (pw = 1 ∧ w = false)) (hi : i < dn D 1) {t tF : Int32} {f fF : Nat → Int32} {Q : Option Value → HF → Prop} (hfi : f i = -1) (kk : ∀ h1 (j : Nat) o4, mdAt h1 D tF F → hAt h1 65 (oA 0 8 fF) → offB h h1 51 66 → J X RX7 cX7_compares 5 1 none Q 163 [some (.ref 51), some (.int (nI pw)), some (.int (nI i)), some (.int (nI j)), o4] [] h1) :
    ∀ (k j : Nat) (h1 : HF) (o4 : Option Value), j + k = dn D 0 → mdAt h1 D t F → hAt h1 65 (oA 0 8 f) → tkP (pick t w (de D 1 i) (de D 0) j k) t = tF → tkF (pick t w (de D 1 i) (de D 0) j k) f i = fF → offB h h1 51 66 →
    J X RX7 cX7_compares 5 1 none Q 47 [some (.ref 51), some (.int (nI pw)), some (.int (nI i)), some (.int (nI j)), o4] [] h1 := by
  intro k
  induction k with
  | zero =>
    intro j h1 o4 hj p p65 ht hf ho
    obtain ⟨h0, ⟨fm, hm, hm0⟩, -⟩ := id p
    have h8 := p.2.2.2.2.2.2.2.2.2.2.2.2.2.1 0 (by decide)
    have ht : t = tF := ht
    have hf : f = fF := hf
    subst ht hf
    refine J_iload_3 dX7_compares_47 ?_
    refine J_aload_0 dX7_compares_48 ?_
    refine J_get dX7_compares_49 fl_X7_7 h0 rfl ?_
    refine J_iconst (v := nI 0) dX7_compares_52 (by decide) ?_
    refine J_iald dX7_compares_53 hm rfl (by omega) (by omega) ?_
    refine J_topi (b := nI (dn D 0)) (hm0 0 (by decide)) ?_
    refine J_icmp_geN (tgt := 163) dX7_compares_54 (by decide) (by omega) (by omega) (fun _ => ?_) (fun c => absurd c (by omega))
    exact kk _ _ _ p p65 ho
  | succ k ih =>
    intro j h1 o4 hj p p65 ht hf ho
    obtain ⟨h0, ⟨fm, hm, hm0⟩, ⟨a0, a1, a2, a3, a4⟩, hF, -⟩ := id p
    obtain ⟨hE, ok0, h8⟩ := mdE p (by decide : 0 < 2) (e := j) (by omega)
    obtain ⟨hE', ok1, h8'⟩ := mdE p (by decide : 1 < 2) hi
    have x2 : F 2 j = nI (de D 0 j 2) := by have := hF 0 j 2 (by decide) (by omega) (by decide); rwa [show 8 * 0 + j = j by omega] at this
    have y2 : F 2 (8 + i) = nI (de D 1 i 2) := by have := hF 1 i 2 (by decide) hi (by decide); rwa [show 8 * 1 + i = 8 + i by omega] at this
    have b1 := ok0.2.2.2.1
    have b2 := ok1.2.2.2.1
    have yes : fits8 t w (de D 1 i) (de D 0 j) j = true → J X RX7 cX7_compares 5 1 none Q 118 [some (.ref 51), some (.int (nI pw)), some (.int (nI i)), some (.int (nI j)), o4] [.int (nI 1)] h1 := by
      intro z
      rw [show pick t w (de D 1 i) (de D 0) j (k + 1) = some j from if_pos z] at ht hf
      have ht : tkBit t j = tF := ht
      have hf : upd f i (nI j) = fF := hf
      have p3 : mdAt (hu (hu h1 65 (oA 0 8 (upd f i (nI j)))) 51 (moB (tkBit t j) (dfi D))) D tF F := by rw [← ht]; exact md_51 (md_65 p)
      have q3 : hAt (hu (hu h1 65 (oA 0 8 (upd f i (nI j)))) 51 (moB (tkBit t j) (dfi D))) 65 (oA 0 8 fF) := by rw [← hf]; exact hAt_ne (hAt_s p65.1) (by omega)
      have o3 : offB h (hu (hu h1 65 (oA 0 8 (upd f i (nI j)))) 51 (moB (tkBit t j) (dfi D))) 51 66 := (ho.hu (by omega) (by omega)).hu (by omega) (by omega)
      refine J_istore_4 dX7_compares_118 (Nat.le_of_ble_eq_true rfl) rfl ?_
      refine J_aload_0 dX7_compares_120 ?_
      refine J_get dX7_compares_121 fl_X7_49 h0 rfl ?_
      refine J_iload_2 dX7_compares_124 ?_
      refine J_iload_4 dX7_compares_125 ?_
      refine J_if_eq (tgt := 134) dX7_compares_127 (by decide) (fun c => absurd c (by decide)) (fun _ => ?_)
      refine J_iload_3 dX7_compares_130 ?_
      refine J_goto (tgt := 135) dX7_compares_131 (by decide) ?_
      refine J_iast dX7_compares_135 p65 rfl (by omega) (by omega) ?_
      refine J_aload_0 dX7_compares_136 ?_
      refine J_dup dX7_compares_137 rfl ?_
      refine J_get dX7_compares_138 fl_X7_196 (hAt_ne h0 (by omega)) rfl ?_
      refine J_iload_4 dX7_compares_141 ?_
      refine J_if_eq (tgt := 152) dX7_compares_143 (by decide) (fun c => absurd c (by decide)) (fun _ => ?_)
      refine J_iconst (v := nI 1) dX7_compares_146 (by decide) ?_
      refine J_iload_3 dX7_compares_147 ?_
      refine J_ishl dX7_compares_148 ?_
      refine J_goto (tgt := 153) dX7_compares_149 (by decide) ?_
      refine J_ior dX7_compares_153 ?_
      refine J_put dX7_compares_154 fp_X7_196 (hAt_ne h0 (by omega)) (Nat.le_of_ble_eq_true rfl) rfl rfl ?_
      first | refine J_inc_3 dX7_compares_157 (Nat.le_of_ble_eq_true rfl) rfl ?_ | refine J_iinc_3 dX7_compares_157 rfl (Nat.le_of_ble_eq_true rfl) rfl ?_
      refine J_goto (tgt := 47) dX7_compares_160 (by decide) ?_
      exact l_mcmpS (by omega) (by omega) p3 q3 (by rw [← hf]; unfold upd; rw [if_pos rfl]; exact oN_ne (by omega)) (kk _ _ _ p3 q3 o3)
    have no : ¬ fits8 t w (de D 1 i) (de D 0 j) j = true → J X RX7 cX7_compares 5 1 none Q 118 [some (.ref 51), some (.int (nI pw)), some (.int (nI i)), some (.int (nI j)), o4] [.int (nI 0)] h1 := by
      intro z
      rw [show pick t w (de D 1 i) (de D 0) j (k + 1) = pick t w (de D 1 i) (de D 0) (j + 1) k from if_neg z] at ht hf
      have p3 : mdAt (hu (hu h1 65 (oA 0 8 (upd f i (-1)))) 51 (moB (t ||| nI 0) (dfi D))) D t F := by have := md_51 (md_65 p (g := upd f i (-1))) (t := t ||| nI 0); rw [or0] at this ⊢; exact this
      have q3 : hAt (hu (hu h1 65 (oA 0 8 (upd f i (-1)))) 51 (moB (t ||| nI 0) (dfi D))) 65 (oA 0 8 f) := by
        have := hAt_ne (b := 51) (c' := moB (t ||| nI 0) (dfi D)) (hAt_s (h := h1) (c := oA 0 8 (upd f i (-1))) p65.1) (by omega)
        have e : upd f i (-1) = f := by rw [← hfi]; exact upd_self
        rw [e] at this ⊢
        exact this
      have o3 : offB h (hu (hu h1 65 (oA 0 8 (upd f i (-1)))) 51 (moB (t ||| nI 0) (dfi D))) 51 66 := (ho.hu (by omega) (by omega)).hu (by omega) (by omega)
      refine J_istore_4 dX7_compares_118 (Nat.le_of_ble_eq_true rfl) rfl ?_
      refine J_aload_0 dX7_compares_120 ?_
      refine J_get dX7_compares_121 fl_X7_49 h0 rfl ?_
      refine J_iload_2 dX7_compares_124 ?_
      refine J_iload_4 dX7_compares_125 ?_
      refine J_if_eq (tgt := 134) dX7_compares_127 (by decide) (fun _ => ?_) (fun c => absurd (by decide) c)
      refine J_iconst (v := -1) dX7_compares_134 (by decide) ?_
      refine J_iast dX7_compares_135 p65 rfl (by omega) (by omega) ?_
      refine J_aload_0 dX7_compares_136 ?_
      refine J_dup dX7_compares_137 rfl ?_
      refine J_get dX7_compares_138 fl_X7_196 (hAt_ne h0 (by omega)) rfl ?_
      refine J_iload_4 dX7_compares_141 ?_
      refine J_if_eq (tgt := 152) dX7_compares_143 (by decide) (fun _ => ?_) (fun c => absurd (by decide) c)
      refine J_iconst (v := nI 0) dX7_compares_152 (by decide) ?_
      refine J_ior dX7_compares_153 ?_
      refine J_put dX7_compares_154 fp_X7_196 (hAt_ne h0 (by omega)) (Nat.le_of_ble_eq_true rfl) rfl rfl ?_
      first | refine J_inc_3 dX7_compares_157 (Nat.le_of_ble_eq_true rfl) rfl ?_ | refine J_iinc_3 dX7_compares_157 rfl (Nat.le_of_ble_eq_true rfl) rfl ?_
      refine J_goto (tgt := 47) dX7_compares_160 (by decide) ?_
      exact ih (j + 1) _ _ (by omega) p3 q3 ht hf o3
    rcases hpw with ⟨rfl, rfl⟩ | ⟨rfl, rfl⟩
    · refine J_iload_3 dX7_compares_47 ?_
      refine J_aload_0 dX7_compares_48 ?_
      refine J_get dX7_compares_49 fl_X7_7 h0 rfl ?_
      refine J_iconst (v := nI 0) dX7_compares_52 (by decide) ?_
      refine J_iald dX7_compares_53 hm rfl (by omega) (by omega) ?_
      refine J_topi (b := nI (dn D 0)) (hm0 0 (by decide)) ?_
      refine J_icmp_geN (tgt := 163) dX7_compares_54 (by decide) (by omega) (by omega) (fun c => absurd c (by omega)) (fun _ => ?_)
      refine J_aload_0 dX7_compares_57 ?_
      refine J_get dX7_compares_58 fl_X7_49 h0 rfl ?_
      refine J_iload_2 dX7_compares_61 ?_
      refine J_iald dX7_compares_62 p65 rfl (by omega) (by omega) ?_
      refine J_iconst (v := -1) dX7_compares_63 (by decide) ?_
      refine J_icmp_ne (tgt := 163) dX7_compares_64 (by decide) (fun c => absurd c (fun z => z hfi)) (fun _ => ?_)
      refine J_aload_0 dX7_compares_67 ?_
      refine J_get dX7_compares_68 fl_X7_196 h0 rfl ?_
      refine J_iload_3 dX7_compares_71 ?_
      refine J_cS2i dX7_compares_72 jmX7_isIn ms_X7_200 (Nat.le_of_ble_eq_true rfl) (by decide) (m_isIn) ?_
      first | refine J_if_neB (tgt := 117) dX7_compares_75 (by decide) (fun c75 => ?_) (fun c75 => ?_) | refine J_if_neN (tgt := 117) dX7_compares_75 (by decide) (by omega) (fun c75 => ?_) (fun c75 => ?_) | refine J_if_ne (tgt := 117) dX7_compares_75 (by decide) (fun c75 => ?_) (fun c75 => ?_)
      · have g0 : ¬ fits8 t true (de D 1 i) (de D 0 j) j = true := by simp only [fits8, Bool.and_eq_true, Bool.or_eq_true, decide_eq_true_eq]; first | exact (fun z => c75 z.1) | exact (fun z => c87 z.2.1) | exact (fun z => z.2.2.elim (fun q => absurd q (by decide)) (fun q => c110 q.symm))
        refine J_iconst (v := nI 0) dX7_compares_117 (by decide) ?_
        first | exact yes g0 | exact no g0
      · refine J_aload_0 dX7_compares_78 ?_
        refine J_iload_3 dX7_compares_79 ?_
        refine J_bipush (v := nI 8) dX7_compares_80 (by decide) ?_
        refine J_iload_2 dX7_compares_82 ?_
        first | refine J_iaddN dX7_compares_83 ?_ | refine J_iadd dX7_compares_83 ?_
        refine J_cV2i dX7_compares_84 jmX7_isLike mv_X7_203 h0 rfl (Nat.le_of_ble_eq_true rfl) (by decide) (m_isLike p (by omega) hi) ?_
        first | refine J_if_eqB (tgt := 117) dX7_compares_87 (by decide) (fun c87 => ?_) (fun c87 => ?_) | refine J_if_eqN (tgt := 117) dX7_compares_87 (by decide) (by omega) (fun c87 => ?_) (fun c87 => ?_) | refine J_if_eq (tgt := 117) dX7_compares_87 (by decide) (fun c87 => ?_) (fun c87 => ?_)
        · have g0 : ¬ fits8 t true (de D 1 i) (de D 0 j) j = true := by simp only [fits8, Bool.and_eq_true, Bool.or_eq_true, decide_eq_true_eq]; first | exact (fun z => c75 z.1) | exact (fun z => c87 z.2.1) | exact (fun z => z.2.2.elim (fun q => absurd q (by decide)) (fun q => c110 q.symm))
          refine J_iconst (v := nI 0) dX7_compares_117 (by decide) ?_
          first | exact yes g0 | exact no g0
        · refine J_iload_1 dX7_compares_90 ?_
          refine J_iconst (v := nI 1) dX7_compares_91 (by decide) ?_
          refine J_icmp_eq (tgt := 113) dX7_compares_92 (by decide) (fun c => absurd c (by decide)) (fun _ => ?_)
          refine J_aload_0 dX7_compares_95 ?_
          refine J_get dX7_compares_96 fl_X7_19 h0 rfl ?_
          refine J_iload_3 dX7_compares_99 ?_
          refine J_iald dX7_compares_100 a2 rfl (by omega) (by omega) ?_
          refine J_topi (b := nI (de D 0 j 2)) (x2) ?_
          refine J_aload_0 dX7_compares_101 ?_
          refine J_get dX7_compares_102 fl_X7_19 h0 rfl ?_
          refine J_bipush (v := nI 8) dX7_compares_105 (by decide) ?_
          refine J_iload_2 dX7_compares_107 ?_
          first | refine J_iaddN dX7_compares_108 ?_ | refine J_iadd dX7_compares_108 ?_
          refine J_iald dX7_compares_109 a2 rfl (by omega) (by omega) ?_
          refine J_topi (b := nI (de D 1 i 2)) (y2) ?_
          first | refine J_icmp_neN (tgt := 117) dX7_compares_110 (by decide) (by omega) (by omega) (fun c110 => ?_) (fun c110 => ?_) | refine J_icmp_ne (tgt := 117) dX7_compares_110 (by decide) (fun c110 => ?_) (fun c110 => ?_)
          · have g0 : ¬ fits8 t true (de D 1 i) (de D 0 j) j = true := by simp only [fits8, Bool.and_eq_true, Bool.or_eq_true, decide_eq_true_eq]; first | exact (fun z => c75 z.1) | exact (fun z => c87 z.2.1) | exact (fun z => z.2.2.elim (fun q => absurd q (by decide)) (fun q => c110 q.symm))
            refine J_iconst (v := nI 0) dX7_compares_117 (by decide) ?_
            first | exact yes g0 | exact no g0
          · have g0 : fits8 t true (de D 1 i) (de D 0 j) j = true := by simp only [fits8, Bool.and_eq_true, Bool.or_eq_true, decide_eq_true_eq]; exact ⟨Decidable.of_not_not c75, c87, Or.inr c110.symm⟩
            refine J_iconst (v := nI 1) dX7_compares_113 (by decide) ?_
            refine J_goto (tgt := 118) dX7_compares_114 (by decide) ?_
            first | exact yes g0 | exact no g0
    · refine J_iload_3 dX7_compares_47 ?_
      refine J_aload_0 dX7_compares_48 ?_
      refine J_get dX7_compares_49 fl_X7_7 h0 rfl ?_
      refine J_iconst (v := nI 0) dX7_compares_52 (by decide) ?_
      refine J_iald dX7_compares_53 hm rfl (by omega) (by omega) ?_
      refine J_topi (b := nI (dn D 0)) (hm0 0 (by decide)) ?_
      refine J_icmp_geN (tgt := 163) dX7_compares_54 (by decide) (by omega) (by omega) (fun c => absurd c (by omega)) (fun _ => ?_)
      refine J_aload_0 dX7_compares_57 ?_
      refine J_get dX7_compares_58 fl_X7_49 h0 rfl ?_
      refine J_iload_2 dX7_compares_61 ?_
      refine J_iald dX7_compares_62 p65 rfl (by omega) (by omega) ?_
      refine J_iconst (v := -1) dX7_compares_63 (by decide) ?_
      refine J_icmp_ne (tgt := 163) dX7_compares_64 (by decide) (fun c => absurd c (fun z => z hfi)) (fun _ => ?_)
      refine J_aload_0 dX7_compares_67 ?_
      refine J_get dX7_compares_68 fl_X7_196 h0 rfl ?_
      refine J_iload_3 dX7_compares_71 ?_
      refine J_cS2i dX7_compares_72 jmX7_isIn ms_X7_200 (Nat.le_of_ble_eq_true rfl) (by decide) (m_isIn) ?_
      first | refine J_if_neB (tgt := 117) dX7_compares_75 (by decide) (fun c75 => ?_) (fun c75 => ?_) | refine J_if_neN (tgt := 117) dX7_compares_75 (by decide) (by omega) (fun c75 => ?_) (fun c75 => ?_) | refine J_if_ne (tgt := 117) dX7_compares_75 (by decide) (fun c75 => ?_) (fun c75 => ?_)
      · have g0 : ¬ fits8 t false (de D 1 i) (de D 0 j) j = true := by simp only [fits8, Bool.and_eq_true, Bool.or_eq_true, decide_eq_true_eq]; first | exact (fun z => c75 z.1) | exact (fun z => c87 z.2.1)
        refine J_iconst (v := nI 0) dX7_compares_117 (by decide) ?_
        first | exact yes g0 | exact no g0
      · refine J_aload_0 dX7_compares_78 ?_
        refine J_iload_3 dX7_compares_79 ?_
        refine J_bipush (v := nI 8) dX7_compares_80 (by decide) ?_
        refine J_iload_2 dX7_compares_82 ?_
        first | refine J_iaddN dX7_compares_83 ?_ | refine J_iadd dX7_compares_83 ?_
        refine J_cV2i dX7_compares_84 jmX7_isLike mv_X7_203 h0 rfl (Nat.le_of_ble_eq_true rfl) (by decide) (m_isLike p (by omega) hi) ?_
        first | refine J_if_eqB (tgt := 117) dX7_compares_87 (by decide) (fun c87 => ?_) (fun c87 => ?_) | refine J_if_eqN (tgt := 117) dX7_compares_87 (by decide) (by omega) (fun c87 => ?_) (fun c87 => ?_) | refine J_if_eq (tgt := 117) dX7_compares_87 (by decide) (fun c87 => ?_) (fun c87 => ?_)
        · have g0 : ¬ fits8 t false (de D 1 i) (de D 0 j) j = true := by simp only [fits8, Bool.and_eq_true, Bool.or_eq_true, decide_eq_true_eq]; first | exact (fun z => c75 z.1) | exact (fun z => c87 z.2.1)
          refine J_iconst (v := nI 0) dX7_compares_117 (by decide) ?_
          first | exact yes g0 | exact no g0
        · refine J_iload_1 dX7_compares_90 ?_
          refine J_iconst (v := nI 1) dX7_compares_91 (by decide) ?_
          refine J_icmp_eq (tgt := 113) dX7_compares_92 (by decide) (fun _ => ?_) (fun c => absurd (by decide) c)
          have g0 : fits8 t false (de D 1 i) (de D 0 j) j = true := by simp only [fits8, Bool.and_eq_true, Bool.or_eq_true, decide_eq_true_eq]; exact ⟨Decidable.of_not_not c75, c87, Or.inl rfl⟩
          refine J_iconst (v := nI 1) dX7_compares_113 (by decide) ?_
          refine J_goto (tgt := 118) dX7_compares_114 (by decide) ?_
          first | exact yes g0 | exact no g0
theorem l_mcmpI {h : HF} {pw : Nat} {w : Bool} (hpw : (pw = 0 ∧ w = true) ∨ (pw = 1 ∧ w = false)) {tF : Int32} {fF : Nat → Int32} {Q : Option Value → HF → Prop} (kk : ∀ h1 (i : Nat) o3 o4, mdAt h1 D tF F → hAt h1 65 (oA 0 8 fF) → offB h h1 51 66 → J X RX7 cX7_compares 5 1 none Q 169 [some (.ref 51), some (.int (nI pw)), some (.int (nI i)), o3, o4] [] h1) :
    ∀ (k i : Nat) (h1 : HF) (t : Int32) (f : Nat → Int32) (o3 o4 : Option Value), i + k = dn D 1 → mdAt h1 D t F → hAt h1 65 (oA 0 8 f) → pas w (de D 0) (de D 1) (dn D 0) i k (t, f) = (tF, fF) → offB h h1 51 66 →
    J X RX7 cX7_compares 5 1 none Q 35 [some (.ref 51), some (.int (nI pw)), some (.int (nI i)), o3, o4] [] h1 := by
  intro k
  induction k with
  | zero =>
    intro i h1 t f o3 o4 hi p p65 hr ho
    obtain ⟨h0, ⟨fm, hm, hm0⟩, -⟩ := id p
    have h8 := p.2.2.2.2.2.2.2.2.2.2.2.2.2.1 1 (by decide)
    have e1 : t = tF := congrArg Prod.fst hr
    have e2 : f = fF := congrArg Prod.snd hr
    subst e1 e2
    refine J_iload_2 dX7_compares_35 ?_
    refine J_aload_0 dX7_compares_36 ?_
    refine J_get dX7_compares_37 fl_X7_7 h0 rfl ?_
    refine J_iconst (v := nI 1) dX7_compares_40 (by decide) ?_
    refine J_iald dX7_compares_41 hm rfl (by omega) (by omega) ?_
    refine J_topi (b := nI (dn D 1)) (hm0 1 (by decide)) ?_
    refine J_icmp_geN (tgt := 169) dX7_compares_42 (by decide) (by omega) (by omega) (fun _ => ?_) (fun c => absurd c (by omega))
    exact kk _ _ _ _ p p65 ho
  | succ k ih =>
    intro i h1 t f o3 o4 hi p p65 hr ho
    obtain ⟨h0, ⟨fm, hm, hm0⟩, -⟩ := id p
    have h8 := p.2.2.2.2.2.2.2.2.2.2.2.2.2.1 1 (by decide)
    rw [pas] at hr
    dsimp only at hr
    by_cases q : f i = -1
    · rw [if_pos q] at hr
      refine J_iload_2 dX7_compares_35 ?_
      refine J_aload_0 dX7_compares_36 ?_
      refine J_get dX7_compares_37 fl_X7_7 h0 rfl ?_
      refine J_iconst (v := nI 1) dX7_compares_40 (by decide) ?_
      refine J_iald dX7_compares_41 hm rfl (by omega) (by omega) ?_
      refine J_topi (b := nI (dn D 1)) (hm0 1 (by decide)) ?_
      refine J_icmp_geN (tgt := 169) dX7_compares_42 (by decide) (by omega) (by omega) (fun c => absurd c (by omega)) (fun _ => ?_)
      refine J_iconst (v := nI 0) dX7_compares_45 (by decide) ?_
      refine J_istore_3 dX7_compares_46 (Nat.le_of_ble_eq_true rfl) rfl ?_
      refine l_mcmpJ (h := h) hpw (by omega) q (fun h2 j o4 p2 q2 o2 => ?_) (dn D 0) 0 h1 _ (by omega) p p65 rfl rfl ho
      first | refine J_inc_2 dX7_compares_163 (Nat.le_of_ble_eq_true rfl) rfl ?_ | refine J_iinc_2 dX7_compares_163 rfl (Nat.le_of_ble_eq_true rfl) rfl ?_
      refine J_goto (tgt := 35) dX7_compares_166 (by decide) ?_
      exact ih (i + 1) _ _ _ _ _ (by omega) p2 q2 hr o2
    · rw [if_neg q] at hr
      refine J_iload_2 dX7_compares_35 ?_
      refine J_aload_0 dX7_compares_36 ?_
      refine J_get dX7_compares_37 fl_X7_7 h0 rfl ?_
      refine J_iconst (v := nI 1) dX7_compares_40 (by decide) ?_
      refine J_iald dX7_compares_41 hm rfl (by omega) (by omega) ?_
      refine J_topi (b := nI (dn D 1)) (hm0 1 (by decide)) ?_
      refine J_icmp_geN (tgt := 169) dX7_compares_42 (by decide) (by omega) (by omega) (fun c => absurd c (by omega)) (fun _ => ?_)
      refine J_iconst (v := nI 0) dX7_compares_45 (by decide) ?_
      refine J_istore_3 dX7_compares_46 (Nat.le_of_ble_eq_true rfl) rfl ?_
      refine l_mcmpS (by omega) (by omega) p p65 q ?_
      first | refine J_inc_2 dX7_compares_163 (Nat.le_of_ble_eq_true rfl) rfl ?_ | refine J_iinc_2 dX7_compares_163 rfl (Nat.le_of_ble_eq_true rfl) rfl ?_
      refine J_goto (tgt := 35) dX7_compares_166 (by decide) ?_
      exact ih (i + 1) _ _ _ _ _ (by omega) p p65 hr ho
theorem l_mcmp0 {h : HF} {Q : Option Value → HF → Prop} {o2 o3 o4 : Option Value} (kk : ∀ h1 f o1, mdAt h1 D 0 F → hAt h1 65 (oA 0 8 f) → (∀ j, j < 8 → f j = -1) → offB h h1 51 66 → J X RX7 cX7_compares 5 1 none Q 26 [some (.ref 51), o1, o2, o3, o4] [] h1) : ∀ (k i : Nat) (h1 : HF) (f : Nat → Int32), i + k = 8 → mdAt h1 D 0 F → hAt h1 65 (oA 0 8 f) → (∀ j, j < i → f j = -1) → offB h h1 51 66 →
    J X RX7 cX7_compares 5 1 none Q 7 [some (.ref 51), some (.int (nI i)), o2, o3, o4] [] h1 := by
  intro k
  induction k with
  | zero =>
    intro i h1 f hi p p65 hf ho
    refine J_iload_1 dX7_compares_7 ?_
    refine J_bipush (v := nI 8) dX7_compares_8 (by decide) ?_
    refine J_icmp_geN (tgt := 26) dX7_compares_10 (by decide) (by omega) (by omega) (fun _ => ?_) (fun c => absurd c (by omega))
    exact kk h1 f _ p p65 (fun j hj => hf j (by omega)) ho
  | succ k ih =>
    intro i h1 f hi p p65 hf ho
    have h0 := p.1
    refine J_iload_1 dX7_compares_7 ?_
    refine J_bipush (v := nI 8) dX7_compares_8 (by decide) ?_
    refine J_icmp_geN (tgt := 26) dX7_compares_10 (by decide) (by omega) (by omega) (fun c => absurd c (by omega)) (fun _ => ?_)
    refine J_aload_0 dX7_compares_13 ?_
    refine J_get dX7_compares_14 fl_X7_49 h0 rfl ?_
    refine J_iload_1 dX7_compares_17 ?_
    refine J_iconst (v := -1) dX7_compares_18 (by decide) ?_
    refine J_iast dX7_compares_19 p65 rfl (by omega) (by omega) ?_
    first | refine J_inc_1 dX7_compares_20 (Nat.le_of_ble_eq_true rfl) rfl ?_ | refine J_iinc_1 dX7_compares_20 rfl (Nat.le_of_ble_eq_true rfl) rfl ?_
    refine J_goto (tgt := 7) dX7_compares_23 (by decide) ?_
    refine ih (i + 1) _ _ (by omega) (md_65 p) (hAt_s p65.1) (fun j hj => ?_) (ho.hu (by omega) (by omega))
    unfold upd
    by_cases z : j = i
    · rw [if_pos z]
    · rw [if_neg z]; exact hf j (by omega)
/-- what the reference knows of which EDIT has which, as COMPARED -/
def mqAt (h : HF) (D : DS) (F : Nat → Nat → Int32) : Prop := mdAt h D (prD D).1 F ∧ ∃ f, hAt h 65 (oA 0 8 f) ∧ ∀ j, j < 8 → f j = oP D j
theorem m_compares (p : mdAt h D tb F) : Ct X mX7_compares 1 [.ref 51] h (fun r h' => r = none ∧ mqAt h' D F ∧ offB h h' 51 71) := by
  have h0 := p.1
  obtain ⟨f65, a65⟩ := p.2.2.2.2.2.2.2.1.2.2.1
  have h8 := p.2.2.2.2.2.2.2.2.2.2.2.2.2.1 1 (by decide)
  refine Ct_of jmX7_compares [some (.ref 51), none, none, none, none] (Nat.le_of_ble_eq_true rfl) rfl ?_
  show J X RX7 cX7_compares 5 _ none _ 0 _ _ _
  refine J_aload_0 dX7_compares_0 ?_
  refine J_iconst (v := nI 0) dX7_compares_1 (by decide) ?_
  refine J_put dX7_compares_2 fp_X7_196 h0 (Nat.le_of_ble_eq_true rfl) rfl rfl ?_
  refine J_iconst (v := nI 0) dX7_compares_5 (by decide) ?_
  refine J_istore_1 dX7_compares_6 (Nat.le_of_ble_eq_true rfl) rfl ?_
  refine l_mcmp0 (h := h) (F := F) (fun h1 f o1 p1 q1 hf o1 => ?_) 8 0 _ f65 (by omega) (md_51 p) (hAt_ne a65 (by omega)) (fun j hj => by omega) (offB.rf.hu (by omega) (by omega))
  have a1 := pas_congr (w := true) (x := de D 0) (x' := de D 0) (y := de D 1) (y' := de D 1) (n := dn D 0) (fun j hj => rfl) (dn D 1) 0 0 f (fun _ => -1) (by omega) (fun j hj => rfl) hf
  have a2 := pas_congr (w := false) (x := de D 0) (x' := de D 0) (y := de D 1) (y' := de D 1) (n := dn D 0) (fun j hj => rfl) (dn D 1) 0 (pas true (de D 0) (de D 1) (dn D 0) 0 (dn D 1) (0, f)).1 (pas true (de D 0) (de D 1) (dn D 0) 0 (dn D 1) (0, f)).2 (pas true (de D 0) (de D 1) (dn D 0) 0 (dn D 1) (0, fun _ => -1)).2 (by omega) (fun j hj => rfl) a1.2
  refine J_iconst (v := nI 0) dX7_compares_26 (by decide) ?_
  refine J_istore_1 dX7_compares_27 (Nat.le_of_ble_eq_true rfl) rfl ?_
  refine J_iload_1 dX7_compares_28 ?_
  refine J_iconst (v := nI 2) dX7_compares_29 (by decide) ?_
  refine J_icmp_geN (tgt := 175) dX7_compares_30 (by decide) (by omega) (by omega) (fun c => absurd c (by omega)) (fun _ => ?_)
  refine J_iconst (v := nI 0) dX7_compares_33 (by decide) ?_
  refine J_istore_2 dX7_compares_34 (Nat.le_of_ble_eq_true rfl) rfl ?_
  refine l_mcmpI (h := h) (pw := 0) (w := true) (Or.inl ⟨rfl, rfl⟩) (fun h2 i o3 o4 p2 q2 o2 => ?_) (dn D 1) 0 h1 0 f _ _ (by omega) p1 q1 rfl o1
  first | refine J_inc_1 dX7_compares_169 (Nat.le_of_ble_eq_true rfl) rfl ?_ | refine J_iinc_1 dX7_compares_169 rfl (Nat.le_of_ble_eq_true rfl) rfl ?_
  refine J_goto (tgt := 28) dX7_compares_172 (by decide) ?_
  refine J_iload_1 dX7_compares_28 ?_
  refine J_iconst (v := nI 2) dX7_compares_29 (by decide) ?_
  refine J_icmp_geN (tgt := 175) dX7_compares_30 (by decide) (by omega) (by omega) (fun c => absurd c (by omega)) (fun _ => ?_)
  refine J_iconst (v := nI 0) dX7_compares_33 (by decide) ?_
  refine J_istore_2 dX7_compares_34 (Nat.le_of_ble_eq_true rfl) rfl ?_
  refine l_mcmpI (h := h) (pw := 1) (w := false) (Or.inr ⟨rfl, rfl⟩) (fun h3 i o3 o4 p3 q3 o3' => ?_) (dn D 1) 0 h2 _ _ _ _ (by omega) p2 q2 rfl o2
  have e : (pas false (de D 0) (de D 1) (dn D 0) 0 (dn D 1) ((pas true (de D 0) (de D 1) (dn D 0) 0 (dn D 1) (0, f)).1, (pas true (de D 0) (de D 1) (dn D 0) 0 (dn D 1) (0, f)).2)).1 = (prD D).1 := by
    refine Eq.trans a2.1 ?_
    rw [a1.1]
    rfl
  rw [e] at p3
  first | refine J_inc_1 dX7_compares_169 (Nat.le_of_ble_eq_true rfl) rfl ?_ | refine J_iinc_1 dX7_compares_169 rfl (Nat.le_of_ble_eq_true rfl) rfl ?_
  refine J_goto (tgt := 28) dX7_compares_172 (by decide) ?_
  refine J_iload_1 dX7_compares_28 ?_
  refine J_iconst (v := nI 2) dX7_compares_29 (by decide) ?_
  refine J_icmp_geN (tgt := 175) dX7_compares_30 (by decide) (by omega) (by omega) (fun _ => ?_) (fun c => absurd c (by omega))
  exact J_vret dX7_compares_175 rfl (⟨rfl, ⟨p3, _, q3, fun j hj => (a2.2 j hj).trans (by rw [a1.1]; rfl)⟩, o3'.wide (by omega) (by omega)⟩)
end
