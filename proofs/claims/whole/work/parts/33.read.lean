/-! read: EDITS out of a SHEET -/
def edB (r i m p q : Int32) : Bool := decide (0 ≤ r ∧ r < nI 6) && (decide (nI 0 ≤ i ∧ i ≤ nI 199999) && (decide (nI 1 ≤ m ∧ m ≤ nI 500) && (decide (nI 0 ≤ p ∧ p ≤ nI 6) && decide (nI 1 ≤ q ∧ q ≤ nI 6))))
theorem edB_iff {r i m p q : Int32} : edB r i m p q = true ↔ edI r i m p q := by
  simp only [edB, edI, Bool.and_eq_true, decide_eq_true_eq]
def edY (it : Nat → Int32) (b : Nat) : Nat → Nat := fun j => (it (b + j)).toNatClampNeg
def edBt (it : Nat → Int32) (b : Nat) : Bool := edB (it b) (it (b + 1)) (it (b + 2)) (it (b + 3)) (it (b + 4))
theorem edBt_spec {it : Nat → Int32} {b : Nat} (h : edBt it b = true) : edOk (edY it b) ∧ it b = nI (edY it b 0) ∧ it (b + 1) = nI (edY it b 1) ∧ it (b + 2) = nI (edY it b 2) ∧ it (b + 3) = nI (edY it b 3) ∧ it (b + 4) = nI (edY it b 4) := by
  obtain ⟨y, ok, e0, e1, e2, e3, e4⟩ := edI_spec (edB_iff.mp h)
  obtain ⟨o0, o1, o2, o3, o4, o5, o6⟩ := id ok
  have f0 : edY it b 0 = y 0 := by show (it (b + 0)).toNatClampNeg = _; rw [show it (b + 0) = nI (y 0) from e0, nI_clamp (by omega)]
  have f1 : edY it b 1 = y 1 := by show (it (b + 1)).toNatClampNeg = _; rw [e1, nI_clamp (by omega)]
  have f2 : edY it b 2 = y 2 := by show (it (b + 2)).toNatClampNeg = _; rw [e2, nI_clamp (by omega)]
  have f3 : edY it b 3 = y 3 := by show (it (b + 3)).toNatClampNeg = _; rw [e3, nI_clamp (by omega)]
  have f4 : edY it b 4 = y 4 := by show (it (b + 4)).toNatClampNeg = _; rw [e4, nI_clamp (by omega)]
  refine ⟨?_, by rw [f0]; exact e0, by rw [f1]; exact e1, by rw [f2]; exact e2, by rw [f3]; exact e3, by rw [f4]; exact e4⟩
  unfold edOk
  rw [f0, f1, f2, f3, f4]
  exact ok
/-- one EDIT more -/
def dAdd (D : DS) (l : Nat) (y : Nat → Nat) : DS := dSN (dSE D l (dn D l) y) l (dn D l + 1)
/-- EDITS from item 5 k on, at most m -/
def rdk (it : Nat → Int32) (sz l m k : Nat) (D : DS) : Nat × DS := match m with
  | 0 => (k, D)
  | m + 1 => if 5 * k + 5 ≤ sz ∧ dn D l < 8 ∧ edBt it (5 * k) = true then rdk it sz l m (k + 1) (dAdd D l (edY it (5 * k))) else (k, D)
section
variable {X : Cx} {h : HF} {D : DS} {ca : Nat → Nat} {xs : Nat → Nat → Nat → Nat}
theorem dk_add (p : dkAt h D ca xs) {l : Nat} {y : Nat → Nat} (hl : l < 2) (oky : edOk y) (hn : dn D l < 8) : dkAt (hu (hu h (ca l + 2 + dn D l) (edC y)) (ca l) (oB 0 [.ref (ca l + 1), .int (nI (dn D l + 1))])) (dAdd D l y) ca (fun j => if j = l then eset (xs l) (dn D l) y else xs j) := by
  obtain ⟨h0, ⟨fc, hfc, hfc0⟩, hca, hcut, hrest⟩ := id p
  have hC := hcut l hl
  have hcl := ca_lt hca hl
  have hC2 := cut_setN (cut_setEd hC hn oky) (m := dn D l + 1) (by omega)
  refine dk_cut p hl ((offB.rf.hu (by omega) (by omega)).hu (by omega) (by omega)) hC2 (if_pos rfl) (fun j hj => ⟨if_neg hj, if_neg hj⟩) (fun e he => ?_) rfl
  show (if l = l then eset (D.2.1 l) (dn D l) y else D.2.1 l) e = eset (xs l) (dn D l) y e
  rw [if_pos rfl]
  by_cases z : e = dn D l
  · rw [z, eset_s, eset_s]
  · rw [eset_n z, eset_n z]
    exact (hrest.2.2.2.2.2.2.2.2.1 l e hl (by omega)).symm
theorem c_apFrom {c n a form sz b : Nat} {x : Nat → Nat → Nat} {lost : Bool} {it : Nat → Int32} (hC : cutAt h c n x) (hS : shAt h a lost form sz it) (hn : n < 8) (hb : b + 5 ≤ sz) (hq : edBt it b = true) : Ct X mX6_appendFrom 3 [.ref c, .ref a, .int (nI b)] h (fun r h' => r = some (.int 1) ∧ h' = hu (hu h (c + 2 + n) (edC (edY it b))) c (oB 0 [.ref (c + 1), .int (nI (n + 1))])) := by
  obtain ⟨ok, e0, e1, e2, e3, e4⟩ := edBt_spec hq
  have he := c_mayEdit (X := X) (h := h) (Classical.propDecidable (edI (it b) (it (b + 1)) (it (b + 2)) (it (b + 3)) (it (b + 4))))
  rw [if_pos (edB_iff.mp hq), e0, e1, e2, e3, e4] at he
  have hap := c_append (X := X) hC hn ok
  have hs0 := hS.1
  have hc := hC.1
  have i0 := c_item (X := X) hS (j := b) (by omega)
  have i1 := c_item (X := X) hS (j := b + 1) (by omega)
  have i2 := c_item (X := X) hS (j := b + 2) (by omega)
  have i3 := c_item (X := X) hS (j := b + 3) (by omega)
  have i4 := c_item (X := X) hS (j := b + 4) (by omega)
  rw [e0] at i0
  rw [e1] at i1
  rw [e2] at i2
  rw [e3] at i3
  rw [e4] at i4
  refine Ct_of jmX6_appendFrom [some (.ref c), some (.ref a), some (.int (nI b)), none, none, none, none, none] (Nat.le_of_ble_eq_true rfl) rfl ?_
  show J X RX6 cX6_appendFrom 8 _ (some .boolean) _ 0 _ _ _
  refine J_aload_1 dX6_appendFrom_0 ?_
  refine J_iload_2 dX6_appendFrom_1 ?_
  refine J_cV1i dX6_appendFrom_2 jmX4_item mv_X6_113 hs0 rfl (Nat.le_of_ble_eq_true rfl) (by decide) (i0) ?_
  refine J_istore_3 dX6_appendFrom_5 (Nat.le_of_ble_eq_true rfl) rfl ?_
  refine J_aload_1 dX6_appendFrom_6 ?_
  refine J_iload_2 dX6_appendFrom_7 ?_
  refine J_iconst (v := nI 1) dX6_appendFrom_8 (by decide) ?_
  first | refine J_iaddN dX6_appendFrom_9 ?_ | refine J_iadd dX6_appendFrom_9 ?_
  refine J_cV1i dX6_appendFrom_10 jmX4_item mv_X6_113 hs0 rfl (Nat.le_of_ble_eq_true rfl) (by decide) (i1) ?_
  refine J_istore_4 dX6_appendFrom_13 (Nat.le_of_ble_eq_true rfl) rfl ?_
  refine J_aload_1 dX6_appendFrom_15 ?_
  refine J_iload_2 dX6_appendFrom_16 ?_
  refine J_iconst (v := nI 2) dX6_appendFrom_17 (by decide) ?_
  first | refine J_iaddN dX6_appendFrom_18 ?_ | refine J_iadd dX6_appendFrom_18 ?_
  refine J_cV1i dX6_appendFrom_19 jmX4_item mv_X6_113 hs0 rfl (Nat.le_of_ble_eq_true rfl) (by decide) (i2) ?_
  refine J_istore_5 dX6_appendFrom_22 (Nat.le_of_ble_eq_true rfl) rfl ?_
  refine J_aload_1 dX6_appendFrom_24 ?_
  refine J_iload_2 dX6_appendFrom_25 ?_
  refine J_iconst (v := nI 3) dX6_appendFrom_26 (by decide) ?_
  first | refine J_iaddN dX6_appendFrom_27 ?_ | refine J_iadd dX6_appendFrom_27 ?_
  refine J_cV1i dX6_appendFrom_28 jmX4_item mv_X6_113 hs0 rfl (Nat.le_of_ble_eq_true rfl) (by decide) (i3) ?_
  refine J_istore_6 dX6_appendFrom_31 (Nat.le_of_ble_eq_true rfl) rfl ?_
  refine J_aload_1 dX6_appendFrom_33 ?_
  refine J_iload_2 dX6_appendFrom_34 ?_
  refine J_iconst (v := nI 4) dX6_appendFrom_35 (by decide) ?_
  first | refine J_iaddN dX6_appendFrom_36 ?_ | refine J_iadd dX6_appendFrom_36 ?_
  refine J_cV1i dX6_appendFrom_37 jmX4_item mv_X6_113 hs0 rfl (Nat.le_of_ble_eq_true rfl) (by decide) (i4) ?_
  refine J_istore_7 dX6_appendFrom_40 (Nat.le_of_ble_eq_true rfl) rfl ?_
  refine J_iload_3 dX6_appendFrom_42 ?_
  refine J_iload_4 dX6_appendFrom_43 ?_
  refine J_iload_5 dX6_appendFrom_45 ?_
  refine J_iload_6 dX6_appendFrom_47 ?_
  refine J_iload_7 dX6_appendFrom_49 ?_
  refine J_cS5i dX6_appendFrom_51 jmX6_mayBeEdit ms_X6_64 (Nat.le_of_ble_eq_true rfl) (by decide) (he) ?_
  refine J_if_ne (tgt := 59) dX6_appendFrom_54 (by decide) (fun _ => ?_) (fun c => absurd c (by decide))
  refine J_aload_0 dX6_appendFrom_59 ?_
  refine J_iload_3 dX6_appendFrom_60 ?_
  refine J_iload_4 dX6_appendFrom_61 ?_
  refine J_iload_5 dX6_appendFrom_63 ?_
  refine J_iload_6 dX6_appendFrom_65 ?_
  refine J_iload_7 dX6_appendFrom_67 ?_
  refine J_cV5 dX6_appendFrom_69 jmX1_append mv_X6_72 hc rfl (Nat.le_of_ble_eq_true rfl) (by decide) (hap) (fun r h' q => ?_)
  obtain ⟨rfl, rfl⟩ := q
  refine J_iconst (v := nI 1) dX6_appendFrom_72 (by decide) ?_
  exact J_zret dX6_appendFrom_73 rfl (by first | exact Or.inl rfl | exact Or.inr rfl | exact bI_01 _) (⟨rfl, rfl⟩)
theorem c_apFromNo {c a form sz b : Nat} {lost : Bool} {it : Nat → Int32} (hS : shAt h a lost form sz it) (hb : b + 5 ≤ sz) (hq : ¬ edBt it b = true) : CtI X mX6_appendFrom 3 [.ref c, .ref a, .int (nI b)] h 0 := by
  have he := c_mayEdit (X := X) (h := h) (Classical.propDecidable (edI (it b) (it (b + 1)) (it (b + 2)) (it (b + 3)) (it (b + 4))))
  rw [if_neg (fun z => hq (edB_iff.mpr z))] at he
  have hs0 := hS.1
  refine Ct_of jmX6_appendFrom [some (.ref c), some (.ref a), some (.int (nI b)), none, none, none, none, none] (Nat.le_of_ble_eq_true rfl) rfl ?_
  show J X RX6 cX6_appendFrom 8 _ (some .boolean) _ 0 _ _ _
  refine J_aload_1 dX6_appendFrom_0 ?_
  refine J_iload_2 dX6_appendFrom_1 ?_
  refine J_cV1i dX6_appendFrom_2 jmX4_item mv_X6_113 hs0 rfl (Nat.le_of_ble_eq_true rfl) (by decide) (c_item hS (j := b) (by omega)) ?_
  refine J_istore_3 dX6_appendFrom_5 (Nat.le_of_ble_eq_true rfl) rfl ?_
  refine J_aload_1 dX6_appendFrom_6 ?_
  refine J_iload_2 dX6_appendFrom_7 ?_
  refine J_iconst (v := nI 1) dX6_appendFrom_8 (by decide) ?_
  first | refine J_iaddN dX6_appendFrom_9 ?_ | refine J_iadd dX6_appendFrom_9 ?_
  refine J_cV1i dX6_appendFrom_10 jmX4_item mv_X6_113 hs0 rfl (Nat.le_of_ble_eq_true rfl) (by decide) (c_item hS (j := b + 1) (by omega)) ?_
  refine J_istore_4 dX6_appendFrom_13 (Nat.le_of_ble_eq_true rfl) rfl ?_
  refine J_aload_1 dX6_appendFrom_15 ?_
  refine J_iload_2 dX6_appendFrom_16 ?_
  refine J_iconst (v := nI 2) dX6_appendFrom_17 (by decide) ?_
  first | refine J_iaddN dX6_appendFrom_18 ?_ | refine J_iadd dX6_appendFrom_18 ?_
  refine J_cV1i dX6_appendFrom_19 jmX4_item mv_X6_113 hs0 rfl (Nat.le_of_ble_eq_true rfl) (by decide) (c_item hS (j := b + 2) (by omega)) ?_
  refine J_istore_5 dX6_appendFrom_22 (Nat.le_of_ble_eq_true rfl) rfl ?_
  refine J_aload_1 dX6_appendFrom_24 ?_
  refine J_iload_2 dX6_appendFrom_25 ?_
  refine J_iconst (v := nI 3) dX6_appendFrom_26 (by decide) ?_
  first | refine J_iaddN dX6_appendFrom_27 ?_ | refine J_iadd dX6_appendFrom_27 ?_
  refine J_cV1i dX6_appendFrom_28 jmX4_item mv_X6_113 hs0 rfl (Nat.le_of_ble_eq_true rfl) (by decide) (c_item hS (j := b + 3) (by omega)) ?_
  refine J_istore_6 dX6_appendFrom_31 (Nat.le_of_ble_eq_true rfl) rfl ?_
  refine J_aload_1 dX6_appendFrom_33 ?_
  refine J_iload_2 dX6_appendFrom_34 ?_
  refine J_iconst (v := nI 4) dX6_appendFrom_35 (by decide) ?_
  first | refine J_iaddN dX6_appendFrom_36 ?_ | refine J_iadd dX6_appendFrom_36 ?_
  refine J_cV1i dX6_appendFrom_37 jmX4_item mv_X6_113 hs0 rfl (Nat.le_of_ble_eq_true rfl) (by decide) (c_item hS (j := b + 4) (by omega)) ?_
  refine J_istore_7 dX6_appendFrom_40 (Nat.le_of_ble_eq_true rfl) rfl ?_
  refine J_iload_3 dX6_appendFrom_42 ?_
  refine J_iload_4 dX6_appendFrom_43 ?_
  refine J_iload_5 dX6_appendFrom_45 ?_
  refine J_iload_6 dX6_appendFrom_47 ?_
  refine J_iload_7 dX6_appendFrom_49 ?_
  refine J_cS5i dX6_appendFrom_51 jmX6_mayBeEdit ms_X6_64 (Nat.le_of_ble_eq_true rfl) (by decide) (he) ?_
  refine J_if_ne (tgt := 59) dX6_appendFrom_54 (by decide) (fun c => absurd c (by decide)) (fun _ => ?_)
  refine J_iconst (v := nI 0) dX6_appendFrom_57 (by decide) ?_
  exact J_zret dX6_appendFrom_58 rfl (by first | exact Or.inl rfl | exact Or.inr rfl | exact bI_01 _) (⟨rfl, rfl⟩)
theorem c_read_bad {l s : Int32} (hb : ¬ ((∃ j, j < 2 ∧ l = nI j) ∧ ∃ k, k < 4 ∧ s = nI k)) : CtI X mX6_read 4 [.ref 0, .int l, .int s] h (-2) := by
  refine Ct_of jmX6_read [some (.ref 0), some (.int l), some (.int s), none, none, none, none] (Nat.le_of_ble_eq_true rfl) rfl ?_
  show J X RX6 cX6_read 7 _ (some .int) _ 0 _ _ _
  rcases ix_cases l 2 (by decide) with ⟨j, hj, rfl⟩ | hl
  · rcases ix_cases s 4 (by decide) with ⟨k, hk, rfl⟩ | hs
    · exact absurd ⟨⟨j, hj, rfl⟩, k, hk, rfl⟩ hb
    · refine J_iload_1 dX6_read_0 ?_
      refine J_iconst (v := nI 2) dX6_read_1 (by decide) ?_
      refine J_cS2i dX6_read_2 jmX6_isBelow ms_X6_60 (Nat.le_of_ble_eq_true rfl) (by decide) (c_below hj (by decide)) ?_
      refine J_if_eq (tgt := 16) dX6_read_5 (by decide) (fun c => absurd c (by decide)) (fun _ => ?_)
      refine J_iload_2 dX6_read_8 ?_
      refine J_iconst (v := nI 4) dX6_read_9 (by decide) ?_
      refine J_cS2i dX6_read_10 jmX6_isBelow ms_X6_60 (Nat.le_of_ble_eq_true rfl) (by decide) (c_nbelow hs) ?_
      refine J_if_ne (tgt := 19) dX6_read_13 (by decide) (fun c => absurd c (by decide)) (fun _ => ?_)
      refine J_bipush (v := -2) dX6_read_16 (by decide) ?_
      exact J_iret dX6_read_18 rfl (⟨rfl, rfl⟩)
  · refine J_iload_1 dX6_read_0 ?_
    refine J_iconst (v := nI 2) dX6_read_1 (by decide) ?_
    refine J_cS2i dX6_read_2 jmX6_isBelow ms_X6_60 (Nat.le_of_ble_eq_true rfl) (by decide) (c_nbelow hl) ?_
    refine J_if_eq (tgt := 16) dX6_read_5 (by decide) (fun _ => ?_) (fun c => absurd (by decide) c)
    refine J_bipush (v := -2) dX6_read_16 (by decide) ?_
    exact J_iret dX6_read_18 rfl (⟨rfl, rfl⟩)
theorem c_read_lost (p : dkAt h D ca xs) {l s : Nat} (hl : l < 2) (hs : s < 4) (hq : (dsh D s).1 = true) : Ct X mX6_read 4 [.ref 0, .int (nI l), .int (nI s)] h (fun r h' => r = some (.int (fnd 1)) ∧ DeskAt h' (dSF D 1) ∧ offB h h' 0 51) := by
  obtain ⟨h0, -, -, -, -, -, ⟨fh, hfh, hfh0⟩, hsh, hrest⟩ := id p
  have hS := (hsh s hs).1
  rw [hq] at hS
  refine Ct_of jmX6_read [some (.ref 0), some (.int (nI l)), some (.int (nI s)), none, none, none, none] (Nat.le_of_ble_eq_true rfl) rfl ?_
  show J X RX6 cX6_read 7 _ (some .int) _ 0 _ _ _
  refine J_iload_1 dX6_read_0 ?_
  refine J_iconst (v := nI 2) dX6_read_1 (by decide) ?_
  refine J_cS2i dX6_read_2 jmX6_isBelow ms_X6_60 (Nat.le_of_ble_eq_true rfl) (by decide) (c_below hl (by decide)) ?_
  refine J_if_eq (tgt := 16) dX6_read_5 (by decide) (fun c => absurd c (by decide)) (fun _ => ?_)
  refine J_iload_2 dX6_read_8 ?_
  refine J_iconst (v := nI 4) dX6_read_9 (by decide) ?_
  refine J_cS2i dX6_read_10 jmX6_isBelow ms_X6_60 (Nat.le_of_ble_eq_true rfl) (by decide) (c_below hs (by decide)) ?_
  refine J_if_ne (tgt := 19) dX6_read_13 (by decide) (fun _ => ?_) (fun c => absurd c (by decide))
  refine J_aload_0 dX6_read_19 ?_
  refine J_get dX6_read_20 fl_X6_27 h0 rfl ?_
  refine J_iload_2 dX6_read_23 ?_
  refine J_aald dX6_read_24 hfh ⟨_, rfl⟩ rfl (by omega) (by omega) (hfh0 s hs) ?_
  refine J_astore_3 dX6_read_25 (Nat.le_of_ble_eq_true rfl) rfl ?_
  refine J_aload_3 dX6_read_26 ?_
  refine J_get dX6_read_27 fl_X6_101 hS rfl ?_
  refine J_if_eq (tgt := 39) dX6_read_30 (by decide) (fun c => absurd c (by decide)) (fun _ => ?_)
  refine J_aload_0 dX6_read_33 ?_
  refine J_iconst (v := nI 1) dX6_read_34 (by decide) ?_
  refine J_cV1 dX6_read_35 jmX6_found mv_X6_105 h0 rfl (Nat.le_of_ble_eq_true rfl) (by decide) (c_found p) (fun r h' q => ?_)
  obtain ⟨rfl, rfl⟩ := q
  exact J_iret dX6_read_38 rfl (⟨rfl, ⟨ca, xs, dk_find p (by decide)⟩, offB.rf.hu (by omega) (by omega)⟩)
theorem l_read {h : HF} {l s sz form : Nat} {lost : Bool} {it : Nat → Int32} (hl : l < 2) (hs : s < 4) {Df : DS} {kf : Nat} : ∀ (m k : Nat) (h1 : HF) (D : DS) (xs : Nat → Nat → Nat → Nat), k + m = 13 → dkAt h1 D ca xs → dsh D s = (lost, form, sz, it) → rdk it sz l m k D = (kf, Df) → offB h h1 0 51 →
    J X RX6 cX6_read 7 4 (some .int) (fun r h' => r = some (.int (nI kf)) ∧ DeskAt h' Df ∧ offB h h' 0 51) 53 [some (.ref 0), some (.int (nI l)), some (.int (nI s)), some (.ref (43 + 2 * s)), some (.ref (ca l)), some (.int (nI k)), some (.int (nI (5 * k)))] [] h1 := by
  intro m
  induction m with
  | zero =>
    intro k h1 D xs hk p hd hr ho
    have hS := (p.2.2.2.2.2.2.2.1 s hs)
    rw [hd] at hS
    dsimp only at hS
    have hs0 := hS.1
    have hsz := hS.2.2.2
    cases hr
    refine J_iload_6 dX6_read_53 ?_
    refine J_iconst (v := nI 5) dX6_read_55 (by decide) ?_
    first | refine J_iaddN dX6_read_56 ?_ | refine J_iadd dX6_read_56 ?_
    refine J_aload_3 dX6_read_57 ?_
    refine J_get dX6_read_58 fl_X6_108 hs0 rfl ?_
    refine J_icmp_gtN (tgt := 95) dX6_read_61 (by decide) (by omega) (by omega) (fun _ => ?_) (fun c => absurd c (by omega))
    refine J_iload_5 dX6_read_95 ?_
    exact J_iret dX6_read_97 rfl (⟨rfl, ⟨ca, xs, p⟩, ho⟩)
  | succ m ih =>
    intro k h1 D xs hk p hd hr ho
    have hS := (p.2.2.2.2.2.2.2.1 s hs)
    rw [hd] at hS
    dsimp only at hS
    have hs0 := hS.1
    have hsz := hS.2.2.2
    have hcl := ca_lt p.2.2.1 hl
    have hC := p.2.2.2.1 l hl
    have hc := hC.1
    have hn8 := hC.2.2.2
    have hfl := c_cutFull (X := X) hC
    rw [rdk] at hr
    by_cases h5 : 5 * k + 5 ≤ sz
    · by_cases h8 : dn D l < 8
      · rw [bI_f (by omega)] at hfl
        by_cases hq : edBt it (5 * k) = true
        · rw [if_pos ⟨h5, h8, hq⟩] at hr
          refine J_iload_6 dX6_read_53 ?_
          refine J_iconst (v := nI 5) dX6_read_55 (by decide) ?_
          first | refine J_iaddN dX6_read_56 ?_ | refine J_iadd dX6_read_56 ?_
          refine J_aload_3 dX6_read_57 ?_
          refine J_get dX6_read_58 fl_X6_108 hs0 rfl ?_
          refine J_icmp_gtN (tgt := 95) dX6_read_61 (by decide) (by omega) (by omega) (fun c => absurd c (by omega)) (fun _ => ?_)
          refine J_aload_4 dX6_read_64 ?_
          refine J_cV0i dX6_read_66 jmX1_isFull mv_X6_68 hc rfl (Nat.le_of_ble_eq_true rfl) (by decide) (hfl) ?_
          refine J_if_ne (tgt := 95) dX6_read_69 (by decide) (fun c => absurd c (by decide)) (fun _ => ?_)
          refine J_aload_4 dX6_read_72 ?_
          refine J_aload_3 dX6_read_74 ?_
          refine J_iload_6 dX6_read_75 ?_
          refine J_cS3 dX6_read_77 jmX6_appendFrom ms_X6_109 (Nat.le_of_ble_eq_true rfl) (by decide) (c_apFrom hC hS h8 h5 hq) (fun r h' q => ?_)
          obtain ⟨rfl, rfl⟩ := q
          refine J_if_ne (tgt := 86) dX6_read_80 (by decide) (fun _ => ?_) (fun c => absurd c (by decide))
          first | refine J_inc_5 dX6_read_86 (Nat.le_of_ble_eq_true rfl) rfl ?_ | refine J_iinc_5 dX6_read_86 rfl (Nat.le_of_ble_eq_true rfl) rfl ?_
          refine J_iinc_6 dX6_read_89 (show nI (5 * k) + nI 5 = nI (5 * (k + 1)) from nI_add _ _) (Nat.le_of_ble_eq_true rfl) rfl ?_
          refine J_goto (tgt := 53) dX6_read_92 (by decide) ?_
          exact ih (k + 1) _ _ _ (by omega) (dk_add p hl (edBt_spec hq).1 h8) hd hr (ho.tr ((offB.rf.hu (by omega) (by omega)).hu (by omega) (by omega)))
        · rw [if_neg (fun z => hq z.2.2)] at hr
          cases hr
          refine J_iload_6 dX6_read_53 ?_
          refine J_iconst (v := nI 5) dX6_read_55 (by decide) ?_
          first | refine J_iaddN dX6_read_56 ?_ | refine J_iadd dX6_read_56 ?_
          refine J_aload_3 dX6_read_57 ?_
          refine J_get dX6_read_58 fl_X6_108 hs0 rfl ?_
          refine J_icmp_gtN (tgt := 95) dX6_read_61 (by decide) (by omega) (by omega) (fun c => absurd c (by omega)) (fun _ => ?_)
          refine J_aload_4 dX6_read_64 ?_
          refine J_cV0i dX6_read_66 jmX1_isFull mv_X6_68 hc rfl (Nat.le_of_ble_eq_true rfl) (by decide) (hfl) ?_
          refine J_if_ne (tgt := 95) dX6_read_69 (by decide) (fun c => absurd c (by decide)) (fun _ => ?_)
          refine J_aload_4 dX6_read_72 ?_
          refine J_aload_3 dX6_read_74 ?_
          refine J_iload_6 dX6_read_75 ?_
          refine J_cS3i dX6_read_77 jmX6_appendFrom ms_X6_109 (Nat.le_of_ble_eq_true rfl) (by decide) (c_apFromNo hS h5 hq) ?_
          refine J_if_ne (tgt := 86) dX6_read_80 (by decide) (fun c => absurd c (by decide)) (fun _ => ?_)
          refine J_goto (tgt := 95) dX6_read_83 (by decide) ?_
          refine J_iload_5 dX6_read_95 ?_
          exact J_iret dX6_read_97 rfl (⟨rfl, ⟨ca, xs, p⟩, ho⟩)
      · rw [if_neg (fun z => h8 z.2.1)] at hr
        rw [bI_t (by omega)] at hfl
        cases hr
        refine J_iload_6 dX6_read_53 ?_
        refine J_iconst (v := nI 5) dX6_read_55 (by decide) ?_
        first | refine J_iaddN dX6_read_56 ?_ | refine J_iadd dX6_read_56 ?_
        refine J_aload_3 dX6_read_57 ?_
        refine J_get dX6_read_58 fl_X6_108 hs0 rfl ?_
        refine J_icmp_gtN (tgt := 95) dX6_read_61 (by decide) (by omega) (by omega) (fun c => absurd c (by omega)) (fun _ => ?_)
        refine J_aload_4 dX6_read_64 ?_
        refine J_cV0i dX6_read_66 jmX1_isFull mv_X6_68 hc rfl (Nat.le_of_ble_eq_true rfl) (by decide) (hfl) ?_
        refine J_if_ne (tgt := 95) dX6_read_69 (by decide) (fun _ => ?_) (fun c => absurd c (by decide))
        refine J_iload_5 dX6_read_95 ?_
        exact J_iret dX6_read_97 rfl (⟨rfl, ⟨ca, xs, p⟩, ho⟩)
    · rw [if_neg (fun z => h5 z.1)] at hr
      cases hr
      refine J_iload_6 dX6_read_53 ?_
      refine J_iconst (v := nI 5) dX6_read_55 (by decide) ?_
      first | refine J_iaddN dX6_read_56 ?_ | refine J_iadd dX6_read_56 ?_
      refine J_aload_3 dX6_read_57 ?_
      refine J_get dX6_read_58 fl_X6_108 hs0 rfl ?_
      refine J_icmp_gtN (tgt := 95) dX6_read_61 (by decide) (by omega) (by omega) (fun _ => ?_) (fun c => absurd c (by omega))
      refine J_iload_5 dX6_read_95 ?_
      exact J_iret dX6_read_97 rfl (⟨rfl, ⟨ca, xs, p⟩, ho⟩)
theorem c_read_ok (p : dkAt h D ca xs) {l s : Nat} (hl : l < 2) (hs : s < 4) (hq : (dsh D s).1 = false) : Ct X mX6_read 4 [.ref 0, .int (nI l), .int (nI s)] h (fun r h' => r = some (.int (nI (rdk (dsh D s).2.2.2 (dsh D s).2.2.1 l 13 0 D).1)) ∧ DeskAt h' (rdk (dsh D s).2.2.2 (dsh D s).2.2.1 l 13 0 D).2 ∧ offB h h' 0 51) := by
  obtain ⟨h0, ⟨fc, hfc, hfc0⟩, -, -, -, -, ⟨fh, hfh, hfh0⟩, hsh, hrest⟩ := id p
  have hS := (hsh s hs).1
  rw [hq] at hS
  refine Ct_of jmX6_read [some (.ref 0), some (.int (nI l)), some (.int (nI s)), none, none, none, none] (Nat.le_of_ble_eq_true rfl) rfl ?_
  show J X RX6 cX6_read 7 _ (some .int) _ 0 _ _ _
  refine J_iload_1 dX6_read_0 ?_
  refine J_iconst (v := nI 2) dX6_read_1 (by decide) ?_
  refine J_cS2i dX6_read_2 jmX6_isBelow ms_X6_60 (Nat.le_of_ble_eq_true rfl) (by decide) (c_below hl (by decide)) ?_
  refine J_if_eq (tgt := 16) dX6_read_5 (by decide) (fun c => absurd c (by decide)) (fun _ => ?_)
  refine J_iload_2 dX6_read_8 ?_
  refine J_iconst (v := nI 4) dX6_read_9 (by decide) ?_
  refine J_cS2i dX6_read_10 jmX6_isBelow ms_X6_60 (Nat.le_of_ble_eq_true rfl) (by decide) (c_below hs (by decide)) ?_
  refine J_if_ne (tgt := 19) dX6_read_13 (by decide) (fun _ => ?_) (fun c => absurd c (by decide))
  refine J_aload_0 dX6_read_19 ?_
  refine J_get dX6_read_20 fl_X6_27 h0 rfl ?_
  refine J_iload_2 dX6_read_23 ?_
  refine J_aald dX6_read_24 hfh ⟨_, rfl⟩ rfl (by omega) (by omega) (hfh0 s hs) ?_
  refine J_astore_3 dX6_read_25 (Nat.le_of_ble_eq_true rfl) rfl ?_
  refine J_aload_3 dX6_read_26 ?_
  refine J_get dX6_read_27 fl_X6_101 hS rfl ?_
  refine J_if_eq (tgt := 39) dX6_read_30 (by decide) (fun _ => ?_) (fun c => absurd (by decide) c)
  refine J_aload_0 dX6_read_39 ?_
  refine J_get dX6_read_40 fl_X6_11 h0 rfl ?_
  refine J_iload_1 dX6_read_43 ?_
  refine J_aald dX6_read_44 hfc ⟨_, rfl⟩ rfl (by omega) (by omega) (hfc0 l hl) ?_
  refine J_astore_4 dX6_read_45 (Nat.le_of_ble_eq_true rfl) rfl ?_
  refine J_iconst (v := nI 0) dX6_read_47 (by decide) ?_
  refine J_istore_5 dX6_read_48 (Nat.le_of_ble_eq_true rfl) rfl ?_
  refine J_iconst (v := nI 0) dX6_read_50 (by decide) ?_
  refine J_istore_6 dX6_read_51 (Nat.le_of_ble_eq_true rfl) rfl ?_
  exact l_read hl hs 13 0 h D xs rfl p rfl rfl offB.rf
end
