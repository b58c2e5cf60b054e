theorem fa_and (a b : Nat) : nI a &&& nI b = nI (a &&& b) := by
  apply Int32.toBitVec_inj.1
  show BitVec.ofNat 32 a &&& BitVec.ofNat 32 b = BitVec.ofNat 32 (a &&& b)
  apply BitVec.eq_of_getLsbD_eq
  intro i hi
  simp [hi]
theorem fa_or (a b : Nat) : nI a ||| nI b = nI (a ||| b) := by
  apply Int32.toBitVec_inj.1
  show BitVec.ofNat 32 a ||| BitVec.ofNat 32 b = BitVec.ofNat 32 (a ||| b)
  apply BitVec.eq_of_getLsbD_eq
  intro i hi
  simp [hi]
theorem shl1 : ∀ e, e < 8 → nI 1 <<< (nI e &&& 31) = nI (2 ^ e) := by decide
/-- nothing has changed outside a block -/
def offB (h h' : HF) (lo hi : Nat) : Prop := ∀ b, (b < lo ∨ hi ≤ b) → h' b = h b
theorem offB.rf {h : HF} {lo hi : Nat} : offB h h lo hi := fun _ _ => rfl
theorem offB.tr {h h1 h2 : HF} {lo hi : Nat} (p : offB h h1 lo hi) (q : offB h1 h2 lo hi) : offB h h2 lo hi := fun b hb => (q b hb).trans (p b hb)
theorem offB.wide {h h1 : HF} {lo hi lo' hi' : Nat} (p : offB h h1 lo hi) (l : lo' ≤ lo) (u : hi ≤ hi') : offB h h1 lo' hi' := fun b hb => p b (by omega)
theorem offB.hu {h h1 : HF} {lo hi a : Nat} {c : AE} (p : offB h h1 lo hi) (l : lo ≤ a) (u : a < hi) : offB h (hu h1 a c) lo hi := fun b hb => (hu_ne (by omega)).trans (p b hb)
theorem hAt_off {h h' : HF} {lo hi a : Nat} {c : AE} (p : hAt h a c) (q : offB h h' lo hi) (o : a < lo ∨ hi ≤ a) : hAt h' a c := ⟨p.1, (q a o).trans p.2⟩
/-! SPANS: the object at a, its four rows behind it; n count; g j 0 (reel), 1 (first), 2 (last), 3 (bits) -/
def spAt (h : HF) (a cap n : Nat) (g : Nat → Nat → Nat) : Prop :=
  hAt h a (oB 4 [.ref (a + 1), .ref (a + 2), .ref (a + 3), .ref (a + 4), .int (nI n)]) ∧ hAt h (a + 1) (oA 0 cap (fun j => nI (g j 0))) ∧ hAt h (a + 2) (oA 0 cap (fun j => nI (g j 1))) ∧ hAt h (a + 3) (oA 0 cap (fun j => nI (g j 2))) ∧ hAt h (a + 4) (oA 0 cap (fun j => nI (g j 3))) ∧ n ≤ cap ∧ cap ≤ 16
theorem upd_eset {g : Nat → Nat → Nat} {i k : Nat} {v : Nat → Nat} : upd (fun j => nI (g j k)) i (nI (v k)) = fun j => nI (eset g i v j k) := by
  funext j
  unfold upd eset
  split <;> rfl
theorem sp_other {h h' : HF} {a cap n : Nat} {g : Nat → Nat → Nat} (p : spAt h a cap n g) (hq : ∀ b, a ≤ b → b < a + 5 → h' b = h b) : spAt h' a cap n g := by
  obtain ⟨h0, h1, h2, h3, h4, h5⟩ := p
  exact ⟨⟨h0.1, (hq _ (by omega) (by omega)).trans h0.2⟩, ⟨h1.1, (hq _ (by omega) (by omega)).trans h1.2⟩, ⟨h2.1, (hq _ (by omega) (by omega)).trans h2.2⟩, ⟨h3.1, (hq _ (by omega) (by omega)).trans h3.2⟩, ⟨h4.1, (hq _ (by omega) (by omega)).trans h4.2⟩, h5⟩
theorem sp_put {h : HF} {a cap n i : Nat} {g : Nat → Nat → Nat} {v : Nat → Nat} (p : spAt h a cap n g) :
    spAt (hu (hu (hu (hu h (a + 1) (oA 0 cap (upd (fun j => nI (g j 0)) i (nI (v 0))))) (a + 2) (oA 0 cap (upd (fun j => nI (g j 1)) i (nI (v 1))))) (a + 3) (oA 0 cap (upd (fun j => nI (g j 2)) i (nI (v 2))))) (a + 4) (oA 0 cap (upd (fun j => nI (g j 3)) i (nI (v 3))))) a cap n (eset g i v) := by
  obtain ⟨h0, h1, h2, h3, h4, h5⟩ := p
  rw [upd_eset, upd_eset, upd_eset, upd_eset]
  exact ⟨hAt_ne (hAt_ne (hAt_ne (hAt_ne h0 (by omega)) (by omega)) (by omega)) (by omega), hAt_ne (hAt_ne (hAt_ne (hAt_s h1.1) (by omega)) (by omega)) (by omega), hAt_ne (hAt_ne (hAt_s h2.1) (by omega)) (by omega), hAt_ne (hAt_s h3.1) (by omega), hAt_s h4.1, h5⟩
theorem sp_setN {h : HF} {a cap n m : Nat} {g : Nat → Nat → Nat} (p : spAt h a cap n g) (hm : m ≤ cap) : spAt (hu h a (oB 4 [.ref (a + 1), .ref (a + 2), .ref (a + 3), .ref (a + 4), .int (nI m)])) a cap m g := by
  obtain ⟨h0, h1, h2, h3, h4, h5, h6⟩ := p
  exact ⟨hAt_s h0.1, hAt_ne h1 (by omega), hAt_ne h2 (by omega), hAt_ne h3 (by omega), hAt_ne h4 (by omega), hm, h6⟩
/-- one comes behind the other -/
def beh (v w : Nat → Nat) : Prop := v 0 > w 0 ∨ (v 0 = w 0 ∧ v 1 > w 1)
def behB (v w : Nat → Nat) : Bool := decide (v 0 > w 0) || (decide (v 0 = w 0) && decide (v 1 > w 1))
theorem behB_iff {v w : Nat → Nat} : behB v w = true ↔ beh v w := by simp [behB, beh]
section
variable {X : Cx} {h : HF} {a cap n : Nat} {g : Nat → Nat → Nat}
theorem c_spFull (p : spAt h a cap n g) : CtI X mX5_isFull 0 [.ref a] h (bI (n = cap)) := by
  obtain ⟨h0, h1, h2, h3, h4, hn, hcap⟩ := p
  refine Ct_of jmX5_isFull [some (.ref a)] (Nat.le_of_ble_eq_true rfl) rfl ?_
  show J X RX5 cX5_isFull 1 _ (some .boolean) _ 0 _ _ _
  refine J_aload_0 dX5_isFull_0 ?_
  refine J_get dX5_isFull_1 fl_X5_24 h0 rfl ?_
  refine J_aload_0 dX5_isFull_4 ?_
  refine J_get dX5_isFull_5 fl_X5_9 h0 rfl ?_
  refine J_alen dX5_isFull_8 h1 ⟨_, rfl⟩ ?_
  first | refine J_icmp_ltN (tgt := 16) dX5_isFull_9 (by decide) (by omega) (by omega) (fun c9 => ?_) (fun c9 => ?_) | refine J_icmp_lt (tgt := 16) dX5_isFull_9 (by decide) (fun c9 => ?_) (fun c9 => ?_)
  · have e : bI (n = cap) = 0 := bI_f (by omega)
    refine J_iconst (v := nI 0) dX5_isFull_16 (by decide) ?_
    exact J_zret dX5_isFull_17 rfl (by first | exact Or.inl rfl | exact Or.inr rfl | exact bI_01 _) (⟨by rw [e]; rfl, rfl⟩)
  · refine J_iconst (v := nI 1) dX5_isFull_12 (by decide) ?_
    have e : bI (n = cap) = 1 := bI_t (by omega)
    refine J_goto (tgt := 17) dX5_isFull_13 (by decide) ?_
    exact J_zret dX5_isFull_17 rfl (by first | exact Or.inl rfl | exact Or.inr rfl | exact bI_01 _) (⟨by rw [e]; rfl, rfl⟩)
theorem c_spFill (p : spAt h a cap n g) {i : Nat} {v : Nat → Nat} (hi : i < cap) : Ct X mX5_fill 0 [.ref a, .int (nI i), .int (nI (v 0)), .int (nI (v 1)), .int (nI (v 2)), .int (nI (v 3))] h (fun r h' => r = none ∧ spAt h' a cap n (eset g i v) ∧ offB h h' a (a + 5)) := by
  obtain ⟨h0, h1, h2, h3, h4, hn, hcap⟩ := id p
  refine Ct_of jmX5_fill [some (.ref a), some (.int (nI i)), some (.int (nI (v 0))), some (.int (nI (v 1))), some (.int (nI (v 2))), some (.int (nI (v 3)))] (Nat.le_of_ble_eq_true rfl) rfl ?_
  show J X RX5 cX5_fill 6 _ none _ 0 _ _ _
  refine J_aload_0 dX5_fill_0 ?_
  refine J_get dX5_fill_1 fl_X5_9 h0 rfl ?_
  refine J_iload_1 dX5_fill_4 ?_
  refine J_iload_2 dX5_fill_5 ?_
  refine J_iast dX5_fill_6 h1 rfl hi (by omega) ?_
  refine J_aload_0 dX5_fill_7 ?_
  refine J_get dX5_fill_8 fl_X5_15 (hAt_ne h0 (by omega)) rfl ?_
  refine J_iload_1 dX5_fill_11 ?_
  refine J_iload_3 dX5_fill_12 ?_
  refine J_iast dX5_fill_13 (hAt_ne h2 (by omega)) rfl hi (by omega) ?_
  refine J_aload_0 dX5_fill_14 ?_
  refine J_get dX5_fill_15 fl_X5_18 (hAt_ne (hAt_ne h0 (by omega)) (by omega)) rfl ?_
  refine J_iload_1 dX5_fill_18 ?_
  refine J_iload_4 dX5_fill_19 ?_
  refine J_iast dX5_fill_21 (hAt_ne (hAt_ne h3 (by omega)) (by omega)) rfl hi (by omega) ?_
  refine J_aload_0 dX5_fill_22 ?_
  refine J_get dX5_fill_23 fl_X5_21 (hAt_ne (hAt_ne (hAt_ne h0 (by omega)) (by omega)) (by omega)) rfl ?_
  refine J_iload_1 dX5_fill_26 ?_
  refine J_iload_5 dX5_fill_27 ?_
  refine J_iast dX5_fill_29 (hAt_ne (hAt_ne (hAt_ne h4 (by omega)) (by omega)) (by omega)) rfl hi (by omega) ?_
  exact J_vret dX5_fill_30 rfl (⟨rfl, sp_put p, (((offB.rf.hu (by omega) (by omega)).hu (by omega) (by omega)).hu (by omega) (by omega)).hu (by omega) (by omega)⟩)
theorem c_spMove (p : spAt h a cap n g) {i j : Nat} (hi : i < cap) (hj : j < cap) : Ct X mX5_move 0 [.ref a, .int (nI i), .int (nI j)] h (fun r h' => r = none ∧ spAt h' a cap n (eset g j (g i)) ∧ offB h h' a (a + 5)) := by
  obtain ⟨h0, h1, h2, h3, h4, hn, hcap⟩ := id p
  refine Ct_of jmX5_move [some (.ref a), some (.int (nI i)), some (.int (nI j))] (Nat.le_of_ble_eq_true rfl) rfl ?_
  show J X RX5 cX5_move 3 _ none _ 0 _ _ _
  refine J_aload_0 dX5_move_0 ?_
  refine J_get dX5_move_1 fl_X5_9 h0 rfl ?_
  refine J_iload_2 dX5_move_4 ?_
  refine J_aload_0 dX5_move_5 ?_
  refine J_get dX5_move_6 fl_X5_9 h0 rfl ?_
  refine J_iload_1 dX5_move_9 ?_
  refine J_iald dX5_move_10 h1 rfl hi (by omega) ?_
  refine J_iast dX5_move_11 h1 rfl hj (by omega) ?_
  refine J_aload_0 dX5_move_12 ?_
  refine J_get dX5_move_13 fl_X5_15 (hAt_ne h0 (by omega)) rfl ?_
  refine J_iload_2 dX5_move_16 ?_
  refine J_aload_0 dX5_move_17 ?_
  refine J_get dX5_move_18 fl_X5_15 (hAt_ne h0 (by omega)) rfl ?_
  refine J_iload_1 dX5_move_21 ?_
  refine J_iald dX5_move_22 (hAt_ne h2 (by omega)) rfl hi (by omega) ?_
  refine J_iast dX5_move_23 (hAt_ne h2 (by omega)) rfl hj (by omega) ?_
  refine J_aload_0 dX5_move_24 ?_
  refine J_get dX5_move_25 fl_X5_18 (hAt_ne (hAt_ne h0 (by omega)) (by omega)) rfl ?_
  refine J_iload_2 dX5_move_28 ?_
  refine J_aload_0 dX5_move_29 ?_
  refine J_get dX5_move_30 fl_X5_18 (hAt_ne (hAt_ne h0 (by omega)) (by omega)) rfl ?_
  refine J_iload_1 dX5_move_33 ?_
  refine J_iald dX5_move_34 (hAt_ne (hAt_ne h3 (by omega)) (by omega)) rfl hi (by omega) ?_
  refine J_iast dX5_move_35 (hAt_ne (hAt_ne h3 (by omega)) (by omega)) rfl hj (by omega) ?_
  refine J_aload_0 dX5_move_36 ?_
  refine J_get dX5_move_37 fl_X5_21 (hAt_ne (hAt_ne (hAt_ne h0 (by omega)) (by omega)) (by omega)) rfl ?_
  refine J_iload_2 dX5_move_40 ?_
  refine J_aload_0 dX5_move_41 ?_
  refine J_get dX5_move_42 fl_X5_21 (hAt_ne (hAt_ne (hAt_ne h0 (by omega)) (by omega)) (by omega)) rfl ?_
  refine J_iload_1 dX5_move_45 ?_
  refine J_iald dX5_move_46 (hAt_ne (hAt_ne (hAt_ne h4 (by omega)) (by omega)) (by omega)) rfl hi (by omega) ?_
  refine J_iast dX5_move_47 (hAt_ne (hAt_ne (hAt_ne h4 (by omega)) (by omega)) (by omega)) rfl hj (by omega) ?_
  exact J_vret dX5_move_48 rfl (⟨rfl, sp_put (v := g i) p, (((offB.rf.hu (by omega) (by omega)).hu (by omega) (by omega)).hu (by omega) (by omega)).hu (by omega) (by omega)⟩)
theorem c_spBehind (p : spAt h a cap n g) {i : Nat} {v : Nat → Nat} (hi : i < cap) (b0 : g i 0 < 2 ^ 31) (b1 : g i 1 < 2 ^ 31) (b2 : v 0 < 2 ^ 31) (b3 : v 1 < 2 ^ 31) : CtI X mX5_isBehind 0 [.ref a, .int (nI i), .int (nI (v 0)), .int (nI (v 1))] h (bI (behB (g i) v = true)) := by
  obtain ⟨h0, h1, h2, h3, h4, hn, hcap⟩ := id p
  refine Ct_of jmX5_isBehind [some (.ref a), some (.int (nI i)), some (.int (nI (v 0))), some (.int (nI (v 1)))] (Nat.le_of_ble_eq_true rfl) rfl ?_
  show J X RX5 cX5_isBehind 4 _ (some .boolean) _ 0 _ _ _
  refine J_aload_0 dX5_isBehind_0 ?_
  refine J_get dX5_isBehind_1 fl_X5_9 h0 rfl ?_
  refine J_iload_1 dX5_isBehind_4 ?_
  refine J_iald dX5_isBehind_5 h1 rfl hi (by omega) ?_
  refine J_iload_2 dX5_isBehind_6 ?_
  first | refine J_icmp_gtN (tgt := 30) dX5_isBehind_7 (by decide) (by omega) (by omega) (fun c7 => ?_) (fun c7 => ?_) | refine J_icmp_gt (tgt := 30) dX5_isBehind_7 (by decide) (fun c7 => ?_) (fun c7 => ?_)
  · have e : bI (behB (g i) v = true) = 1 := bI_t (behB_iff.mpr (by unfold beh; omega))
    refine J_iconst (v := nI 1) dX5_isBehind_30 (by decide) ?_
    refine J_goto (tgt := 35) dX5_isBehind_31 (by decide) ?_
    exact J_zret dX5_isBehind_35 rfl (by first | exact Or.inl rfl | exact Or.inr rfl | exact bI_01 _) (⟨by rw [e]; rfl, rfl⟩)
  · refine J_aload_0 dX5_isBehind_10 ?_
    refine J_get dX5_isBehind_11 fl_X5_9 h0 rfl ?_
    refine J_iload_1 dX5_isBehind_14 ?_
    refine J_iald dX5_isBehind_15 h1 rfl hi (by omega) ?_
    refine J_iload_2 dX5_isBehind_16 ?_
    first | refine J_icmp_neN (tgt := 34) dX5_isBehind_17 (by decide) (by omega) (by omega) (fun c17 => ?_) (fun c17 => ?_) | refine J_icmp_ne (tgt := 34) dX5_isBehind_17 (by decide) (fun c17 => ?_) (fun c17 => ?_)
    · have e : bI (behB (g i) v = true) = 0 := bI_f (fun z => by have z := behB_iff.mp z; unfold beh at z; omega)
      refine J_iconst (v := nI 0) dX5_isBehind_34 (by decide) ?_
      exact J_zret dX5_isBehind_35 rfl (by first | exact Or.inl rfl | exact Or.inr rfl | exact bI_01 _) (⟨by rw [e]; rfl, rfl⟩)
    · refine J_aload_0 dX5_isBehind_20 ?_
      refine J_get dX5_isBehind_21 fl_X5_15 h0 rfl ?_
      refine J_iload_1 dX5_isBehind_24 ?_
      refine J_iald dX5_isBehind_25 h2 rfl hi (by omega) ?_
      refine J_iload_3 dX5_isBehind_26 ?_
      first | refine J_icmp_leN (tgt := 34) dX5_isBehind_27 (by decide) (by omega) (by omega) (fun c27 => ?_) (fun c27 => ?_) | refine J_icmp_le (tgt := 34) dX5_isBehind_27 (by decide) (fun c27 => ?_) (fun c27 => ?_)
      · have e : bI (behB (g i) v = true) = 0 := bI_f (fun z => by have z := behB_iff.mp z; unfold beh at z; omega)
        refine J_iconst (v := nI 0) dX5_isBehind_34 (by decide) ?_
        exact J_zret dX5_isBehind_35 rfl (by first | exact Or.inl rfl | exact Or.inr rfl | exact bI_01 _) (⟨by rw [e]; rfl, rfl⟩)
      · have e : bI (behB (g i) v = true) = 1 := bI_t (behB_iff.mpr (by unfold beh; omega))
        refine J_iconst (v := nI 1) dX5_isBehind_30 (by decide) ?_
        refine J_goto (tgt := 35) dX5_isBehind_31 (by decide) ?_
        exact J_zret dX5_isBehind_35 rfl (by first | exact Or.inl rfl | exact Or.inr rfl | exact bI_01 _) (⟨by rw [e]; rfl, rfl⟩)
/-- the row behind a span v that is put at its place, from place i downward -/
def insA (v : Nat → Nat) (i : Nat) (g : Nat → Nat → Nat) : Nat → Nat → Nat := match i with
  | 0 => eset g 0 v
  | i + 1 => if behB (g i) v = true then insA v i (eset g (i + 1) (g i)) else eset g (i + 1) v
def spB (g : Nat → Nat → Nat) (n : Nat) : Prop := ∀ j, j < n → g j 0 < 2 ^ 20 ∧ g j 1 < 2 ^ 20 ∧ g j 2 < 2 ^ 20 ∧ g j 3 < 2 ^ 20
theorem l_insert {v : Nat → Nat} (b2 : v 0 < 2 ^ 20) (b3 : v 1 < 2 ^ 20) (hn : n < cap) : ∀ (i : Nat) (h1 : HF) (g : Nat → Nat → Nat), i ≤ n → spAt h1 a cap n g → spB g i → offB h h1 a (a + 5) →
    J X RX5 cX5_insert 6 1 none (fun r h' => r = none ∧ (∃ g', g' = insA v i g ∧ spAt h' a cap (n + 1) g') ∧ offB h h' a (a + 5)) 14 [some (.ref a), some (.int (nI (v 0))), some (.int (nI (v 1))), some (.int (nI (v 2))), some (.int (nI (v 3))), some (.int (nI i))] [] h1 := by
  intro i
  induction i with
  | zero =>
    intro h1 g hi p hb ho
    have h0 := p.1
    refine J_iload_5 dX5_insert_14 ?_
    refine J_if_leN (tgt := 48) dX5_insert_16 (by decide) (by omega) (fun _ => ?_) (fun c => absurd c (by omega))
    refine J_aload_0 dX5_insert_48 ?_
    refine J_iload_5 dX5_insert_49 ?_
    refine J_iload_1 dX5_insert_51 ?_
    refine J_iload_2 dX5_insert_52 ?_
    refine J_iload_3 dX5_insert_53 ?_
    refine J_iload_4 dX5_insert_54 ?_
    refine J_cV5 dX5_insert_56 jmX5_fill mv_X5_40 h0 rfl (Nat.le_of_ble_eq_true rfl) (by decide) (c_spFill (v := v) p (by omega)) (fun r h' q => ?_)
    obtain ⟨rfl, p2, o2⟩ := q
    have h02 := p2.1
    refine J_aload_0 dX5_insert_59 ?_
    refine J_dup dX5_insert_60 rfl ?_
    refine J_get dX5_insert_61 fl_X5_24 h02 rfl ?_
    refine J_iconst (v := nI 1) dX5_insert_64 (by decide) ?_
    first | refine J_iaddN dX5_insert_65 ?_ | refine J_iadd dX5_insert_65 ?_
    refine J_put dX5_insert_66 fp_X5_24 h02 (Nat.le_of_ble_eq_true rfl) rfl rfl ?_
    exact J_vret dX5_insert_69 rfl (⟨rfl, ⟨_, rfl, sp_setN p2 hn⟩, ho.tr (o2.hu (by omega) (by omega))⟩)
  | succ i ih =>
    intro h1 g hi p hb ho
    have h0 := p.1
    have hcap := p.2.2.2.2.2.2
    have hbi := hb i (by omega)
    have hbh := c_spBehind (X := X) (v := v) p (i := i) (by omega) (by omega) (by omega) (by omega) (by omega)
    by_cases hq : behB (g i) v = true
    · rw [bI_t hq] at hbh
      have e : insA v (i + 1) g = insA v i (eset g (i + 1) (g i)) := if_pos hq
      rw [e]
      refine J_iload_5 dX5_insert_14 ?_
      refine J_if_leN (tgt := 48) dX5_insert_16 (by decide) (by omega) (fun c => absurd c (by omega)) (fun _ => ?_)
      refine J_aload_0 dX5_insert_19 ?_
      refine J_iload_5 dX5_insert_20 ?_
      refine J_iconst (v := nI 1) dX5_insert_22 (by decide) ?_
      first | refine J_isubN dX5_insert_23 (by omega) ?_ | refine J_isub dX5_insert_23 ?_
      refine J_iload_1 dX5_insert_24 ?_
      refine J_iload_2 dX5_insert_25 ?_
      refine J_cV3i dX5_insert_26 jmX5_isBehind mv_X5_32 h0 rfl (Nat.le_of_ble_eq_true rfl) (by decide) (hbh) ?_
      refine J_if_eq (tgt := 48) dX5_insert_29 (by decide) (fun c => absurd c (by decide)) (fun _ => ?_)
      refine J_aload_0 dX5_insert_32 ?_
      refine J_iload_5 dX5_insert_33 ?_
      refine J_iconst (v := nI 1) dX5_insert_35 (by decide) ?_
      first | refine J_isubN dX5_insert_36 (by omega) ?_ | refine J_isub dX5_insert_36 ?_
      refine J_iload_5 dX5_insert_37 ?_
      refine J_cV2 dX5_insert_39 jmX5_move mv_X5_36 h0 rfl (Nat.le_of_ble_eq_true rfl) (by decide) (c_spMove p (i := i) (j := i + 1) (by omega) (by omega)) (fun r h' q => ?_)
      obtain ⟨rfl, p2, o2⟩ := q
      refine J_iinc_5 dX5_insert_42 (pk_m1 i) (Nat.le_of_ble_eq_true rfl) rfl ?_
      refine J_goto (tgt := 14) dX5_insert_45 (by decide) ?_
      exact ih _ _ (by omega) p2 (fun j hj => by rw [eset_n (by omega)]; exact hb j (by omega)) (ho.tr o2)
    · rw [bI_f hq] at hbh
      have e : insA v (i + 1) g = eset g (i + 1) v := if_neg hq
      rw [e]
      refine J_iload_5 dX5_insert_14 ?_
      refine J_if_leN (tgt := 48) dX5_insert_16 (by decide) (by omega) (fun c => absurd c (by omega)) (fun _ => ?_)
      refine J_aload_0 dX5_insert_19 ?_
      refine J_iload_5 dX5_insert_20 ?_
      refine J_iconst (v := nI 1) dX5_insert_22 (by decide) ?_
      first | refine J_isubN dX5_insert_23 (by omega) ?_ | refine J_isub dX5_insert_23 ?_
      refine J_iload_1 dX5_insert_24 ?_
      refine J_iload_2 dX5_insert_25 ?_
      refine J_cV3i dX5_insert_26 jmX5_isBehind mv_X5_32 h0 rfl (Nat.le_of_ble_eq_true rfl) (by decide) (hbh) ?_
      refine J_if_eq (tgt := 48) dX5_insert_29 (by decide) (fun _ => ?_) (fun c => absurd (by rfl) c)
      refine J_aload_0 dX5_insert_48 ?_
      refine J_iload_5 dX5_insert_49 ?_
      refine J_iload_1 dX5_insert_51 ?_
      refine J_iload_2 dX5_insert_52 ?_
      refine J_iload_3 dX5_insert_53 ?_
      refine J_iload_4 dX5_insert_54 ?_
      refine J_cV5 dX5_insert_56 jmX5_fill mv_X5_40 h0 rfl (Nat.le_of_ble_eq_true rfl) (by decide) (c_spFill (v := v) p (by omega)) (fun r h' q => ?_)
      obtain ⟨rfl, p2, o2⟩ := q
      have h02 := p2.1
      refine J_aload_0 dX5_insert_59 ?_
      refine J_dup dX5_insert_60 rfl ?_
      refine J_get dX5_insert_61 fl_X5_24 h02 rfl ?_
      refine J_iconst (v := nI 1) dX5_insert_64 (by decide) ?_
      first | refine J_iaddN dX5_insert_65 ?_ | refine J_iadd dX5_insert_65 ?_
      refine J_put dX5_insert_66 fp_X5_24 h02 (Nat.le_of_ble_eq_true rfl) rfl rfl ?_
      exact J_vret dX5_insert_69 rfl (⟨rfl, ⟨_, rfl, sp_setN p2 hn⟩, ho.tr (o2.hu (by omega) (by omega))⟩)
theorem c_insert (p : spAt h a cap n g) {v : Nat → Nat} (b2 : v 0 < 2 ^ 20) (b3 : v 1 < 2 ^ 20) (hn : n < cap) (hb : spB g n) : Ct X mX5_insert 1 [.ref a, .int (nI (v 0)), .int (nI (v 1)), .int (nI (v 2)), .int (nI (v 3))] h (fun r h' => r = none ∧ spAt h' a cap (n + 1) (insA v n g) ∧ offB h h' a (a + 5)) := by
  have h0 := p.1
  have hf := c_spFull (X := X) p
  rw [bI_f (by omega)] at hf
  refine Ct_of jmX5_insert [some (.ref a), some (.int (nI (v 0))), some (.int (nI (v 1))), some (.int (nI (v 2))), some (.int (nI (v 3))), none] (Nat.le_of_ble_eq_true rfl) rfl ?_
  show J X RX5 cX5_insert 6 _ none _ 0 _ _ _
  refine J_aload_0 dX5_insert_0 ?_
  refine J_cV0i dX5_insert_1 jmX5_isFull mv_X5_28 h0 rfl (Nat.le_of_ble_eq_true rfl) (by decide) (hf) ?_
  refine J_if_eq (tgt := 8) dX5_insert_4 (by decide) (fun _ => ?_) (fun c => absurd (by rfl) c)
  refine J_aload_0 dX5_insert_8 ?_
  refine J_get dX5_insert_9 fl_X5_24 h0 rfl ?_
  refine J_istore_5 dX5_insert_12 (Nat.le_of_ble_eq_true rfl) rfl ?_
  refine J_mono (l_insert b2 b3 hn n h g (Nat.le_refl n) p hb offB.rf) ?_
  rintro r h' ⟨e1, ⟨g', rfl, p2⟩, o2⟩
  exact ⟨e1, p2, o2⟩
end
