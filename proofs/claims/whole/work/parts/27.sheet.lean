/-! SHEET: the object at a, its row of 60 behind it -/
def shAt (h : HF) (a : Nat) (lost : Bool) (form n : Nat) (it : Nat → Int32) : Prop := hAt h a (oB 3 [.ref (a + 1), .int (if lost then 1 else 0), .int (nI form), .int (nI n)]) ∧ (∃ f : Nat → Int32, hAt h (a + 1) (oA 0 60 f) ∧ ∀ j, j < 60 → f j = it j) ∧ form < 3 ∧ n ≤ 60
def nar (form : Nat) (v : Int32) : Int32 := if form = 0 then v.toInt8.toInt32 else if form = 1 then v.toInt16.toInt32 else v
theorem ix_cases (v : Int32) (n : Nat) (hn : n < 2 ^ 31) : (∃ j, j < n ∧ v = nI j) ∨ ¬ (0 ≤ v ∧ v < nI n) := by
  by_cases h : 0 ≤ v ∧ v < nI n
  · left
    obtain ⟨j, hj, rfl⟩ := nI_of (Int32.not_lt.mpr h.1)
    exact ⟨j, (nI_ltI hj hn).mp h.2, rfl⟩
  · exact Or.inr h
section
variable {X : Cx} {h : HF}
theorem c_below {j n : Nat} (hj : j < n) (hn : n < 2 ^ 31) : CtI X mX6_isBelow 0 [.int (nI j), .int (nI n)] h 1 := by
  have e := c_isBelow (X := X) (h := h) (v := nI j) (w := nI n)
  rw [bI_t ⟨nI_pos' (Nat.lt_trans hj hn), (nI_ltI (Nat.lt_trans hj hn) hn).mpr hj⟩] at e
  exact e
theorem c_nbelow {v w : Int32} (hv : ¬ (0 ≤ v ∧ v < w)) : CtI X mX6_isBelow 0 [.int v, .int w] h 0 := by
  have e := c_isBelow (X := X) (h := h) (v := v) (w := w)
  rw [bI_f hv] at e
  exact e
theorem l_fill {a n : Nat} {v : Int32} (hn : n < 2 ^ 31) : ∀ (k i : Nat) (h1 : HF) (f : Nat → Int32), i + k = n → hAt h1 a (oA 0 n f) → (∀ j, j < i → f j = v) → offB h h1 a (a + 1) →
    J X RJ7 cJ7_fill_53178 4 0 none (fun r h' => r = none ∧ (∃ f', hAt h' a (oA 0 n f') ∧ ∀ j, j < n → f' j = v) ∧ offB h h' a (a + 1)) 5 [some (.ref a), some (.int v), some (.int (nI i)), some (.int (nI n))] [] h1 := by
  intro k
  induction k with
  | zero =>
    intro i h1 f hi hc hv ho
    refine J_iload_2 dJ7_fill_53178_5 ?_
    refine J_iload_3 dJ7_fill_53178_6 ?_
    refine J_icmp_geN (tgt := 20) dJ7_fill_53178_7 (by decide) (by omega) (by omega) (fun _ => ?_) (fun c => absurd c (by omega))
    exact J_vret dJ7_fill_53178_20 rfl (⟨rfl, ⟨f, hc, fun j hj => hv j (by omega)⟩, ho⟩)
  | succ k ih =>
    intro i h1 f hi hc hv ho
    refine J_iload_2 dJ7_fill_53178_5 ?_
    refine J_iload_3 dJ7_fill_53178_6 ?_
    refine J_icmp_geN (tgt := 20) dJ7_fill_53178_7 (by decide) (by omega) (by omega) (fun c => absurd c (by omega)) (fun _ => ?_)
    refine J_aload_0 dJ7_fill_53178_10 ?_
    refine J_iload_2 dJ7_fill_53178_11 ?_
    refine J_iload_1 dJ7_fill_53178_12 ?_
    refine J_iast dJ7_fill_53178_13 hc rfl (by omega) (by omega) ?_
    first | refine J_inc_2 dJ7_fill_53178_14 (Nat.le_of_ble_eq_true rfl) rfl ?_ | refine J_iinc_2 dJ7_fill_53178_14 rfl (Nat.le_of_ble_eq_true rfl) rfl ?_
    refine J_goto (tgt := 5) dJ7_fill_53178_17 (by decide) ?_
    exact ih (i + 1) _ _ (by omega) (hAt_s hc.1) (fun j hj => by
      unfold upd
      split
      · rfl
      · exact hv j (by omega)) (ho.hu (by omega) (by omega))
theorem c_fill {a n : Nat} {v : Int32} {f : Nat → Int32} (hn : n < 2 ^ 31) (hc : hAt h a (oA 0 n f)) : Ct X mJ7_fill_53178 0 [.ref a, .int v] h (fun r h' => r = none ∧ (∃ f', hAt h' a (oA 0 n f') ∧ ∀ j, j < n → f' j = v) ∧ offB h h' a (a + 1)) := by
  refine Ct_of jmJ7_fill_53178 [some (.ref a), some (.int v), none, none] (Nat.le_of_ble_eq_true rfl) rfl ?_
  show J X RJ7 cJ7_fill_53178 4 _ none _ 0 _ _ _
  refine J_iconst (v := nI 0) dJ7_fill_53178_0 (by decide) ?_
  refine J_istore_2 dJ7_fill_53178_1 (Nat.le_of_ble_eq_true rfl) rfl ?_
  refine J_aload_0 dJ7_fill_53178_2 ?_
  refine J_alen dJ7_fill_53178_3 hc ⟨_, rfl⟩ ?_
  refine J_istore_3 dJ7_fill_53178_4 (Nat.le_of_ble_eq_true rfl) rfl ?_
  exact l_fill hn n 0 h f (by omega) hc (fun j hj => by omega) offB.rf
variable {a form n : Nat} {lost : Bool} {it : Nat → Int32}
theorem c_shBegin (p : shAt h a lost form n it) {w m : Nat} (hw : w < 3) (hm : m ≤ 60) : Ct X mX4_begin 1 [.ref a, .int (nI w), .int (nI m)] h (fun r h' => r = none ∧ shAt h' a false w m (fun _ => 0) ∧ offB h h' a (a + 2)) := by
  obtain ⟨h0, ⟨f, h1, -⟩, -, -⟩ := id p
  have ha := h0.1
  refine Ct_of jmX4_begin [some (.ref a), some (.int (nI w)), some (.int (nI m))] (Nat.le_of_ble_eq_true rfl) rfl ?_
  show J X RX4 cX4_begin 3 _ none _ 0 _ _ _
  refine J_aload_0 dX4_begin_0 ?_
  refine J_iconst (v := nI 0) dX4_begin_1 (by decide) ?_
  refine J_put dX4_begin_2 fp_X4_15 h0 (Nat.le_of_ble_eq_true rfl) rfl rfl ?_
  refine J_aload_0 dX4_begin_5 ?_
  refine J_iload_1 dX4_begin_6 ?_
  refine J_put dX4_begin_7 fp_X4_19 (hAt_s ha) (Nat.le_of_ble_eq_true rfl) rfl rfl ?_
  rw [hu_hu]
  refine J_aload_0 dX4_begin_10 ?_
  refine J_iload_2 dX4_begin_11 ?_
  refine J_put dX4_begin_12 fp_X4_23 (hAt_s ha) (Nat.le_of_ble_eq_true rfl) rfl rfl ?_
  rw [hu_hu]
  refine J_aload_0 dX4_begin_15 ?_
  refine J_get dX4_begin_16 fl_X4_9 (hAt_s ha) rfl ?_
  refine J_iconst (v := nI 0) dX4_begin_19 (by decide) ?_
  refine J_cS2 dX4_begin_20 jmJ7_fill_53178 ms_X4_26 (Nat.le_of_ble_eq_true rfl) (by decide) (c_fill (by decide) (hAt_ne h1 (by omega))) (fun r h' q => ?_)
  obtain ⟨rfl, ⟨f', q1, q2⟩, o2⟩ := q
  exact J_vret dX4_begin_23 rfl (⟨rfl, ⟨hAt_off (hAt_s ha) o2 (by omega), ⟨f', q1, q2⟩, hw, hm⟩, (offB.hu offB.rf (by omega) (by omega)).tr (o2.wide (by omega) (by omega))⟩)
/-- 1 NULL, 3 CAST, 2 INDEX, 0 none -/
def shFault (lost : Bool) (form n w : Nat) (i : Int32) : Nat := if lost then 1 else if ¬ form = w then 3 else if 0 ≤ i ∧ i < nI n then 0 else 2
theorem c_fault (p : shAt h a lost form n it) {w : Nat} (hw : w < 3) {i : Int32} : CtI X mX4_fault 1 [.ref a, .int (nI w), .int i] h (nI (shFault lost form n w i)) := by
  obtain ⟨h0, -, hfm, hn⟩ := id p
  have hb := c_isBelow (X := X) (h := h) (v := i) (w := nI n)
  refine Ct_of jmX4_fault [some (.ref a), some (.int (nI w)), some (.int i)] (Nat.le_of_ble_eq_true rfl) rfl ?_
  show J X RX4 cX4_fault 3 _ (some .int) _ 0 _ _ _
  cases lost with
  | true =>
    refine J_aload_0 dX4_fault_0 ?_
    refine J_get dX4_fault_1 fl_X4_15 h0 rfl ?_
    refine J_if_eq (tgt := 9) dX4_fault_4 (by decide) (fun c => absurd c (by decide)) (fun _ => ?_)
    refine J_iconst (v := nI 1) dX4_fault_7 (by decide) ?_
    exact J_iret dX4_fault_8 rfl (⟨rfl, rfl⟩)
  | false =>
    refine J_aload_0 dX4_fault_0 ?_
    refine J_get dX4_fault_1 fl_X4_15 h0 rfl ?_
    refine J_if_eq (tgt := 9) dX4_fault_4 (by decide) (fun _ => ?_) (fun c => absurd (by decide) c)
    refine J_aload_0 dX4_fault_9 ?_
    refine J_get dX4_fault_10 fl_X4_19 h0 rfl ?_
    refine J_iload_1 dX4_fault_13 ?_
    first | refine J_icmp_eqN (tgt := 19) dX4_fault_14 (by decide) (by omega) (by omega) (fun c14 => ?_) (fun c14 => ?_) | refine J_icmp_eq (tgt := 19) dX4_fault_14 (by decide) (fun c14 => ?_) (fun c14 => ?_)
    · refine J_iload_2 dX4_fault_19 ?_
      refine J_aload_0 dX4_fault_20 ?_
      refine J_get dX4_fault_21 fl_X4_23 h0 rfl ?_
      refine J_cN2i dX4_fault_24 jmX6_isBelow ms_X4_32 (Nat.le_of_ble_eq_true rfl) (by decide) (hb) ?_
      first | refine J_if_eqB (tgt := 34) dX4_fault_27 (by decide) (fun c27 => ?_) (fun c27 => ?_) | refine J_if_eqN (tgt := 34) dX4_fault_27 (by decide) (by omega) (fun c27 => ?_) (fun c27 => ?_) | refine J_if_eq (tgt := 34) dX4_fault_27 (by decide) (fun c27 => ?_) (fun c27 => ?_)
      · have e : shFault false form n w i = 2 := by unfold shFault; rw [if_neg (by decide), if_neg (fun z => z c14), if_neg c27]
        refine J_iconst (v := nI 2) dX4_fault_34 (by decide) ?_
        exact J_iret dX4_fault_35 rfl (⟨by rw [e], rfl⟩)
      · refine J_iconst (v := nI 0) dX4_fault_30 (by decide) ?_
        have e : shFault false form n w i = 0 := by unfold shFault; rw [if_neg (by decide), if_neg (fun z => z c14), if_pos c27]
        refine J_goto (tgt := 35) dX4_fault_31 (by decide) ?_
        exact J_iret dX4_fault_35 rfl (⟨by rw [e], rfl⟩)
    · refine J_iconst (v := nI 3) dX4_fault_17 (by decide) ?_
      exact J_iret dX4_fault_18 rfl (⟨by rw [show shFault false form n w i = 3 from if_pos c14], rfl⟩)
theorem c_item (p : shAt h a lost form n it) {j : Nat} (hj : j < n) : CtI X mX4_item 1 [.ref a, .int (nI j)] h (it j) := by
  obtain ⟨h0, ⟨f, h1, hf⟩, hfm, hn⟩ := id p
  rw [← hf j (by omega)]
  refine Ct_of jmX4_item [some (.ref a), some (.int (nI j))] (Nat.le_of_ble_eq_true rfl) rfl ?_
  show J X RX4 cX4_item 2 _ (some .int) _ 0 _ _ _
  refine J_iload_1 dX4_item_0 ?_
  refine J_aload_0 dX4_item_1 ?_
  refine J_get dX4_item_2 fl_X4_23 h0 rfl ?_
  refine J_cN2i dX4_item_5 jmX6_isBelow ms_X4_32 (Nat.le_of_ble_eq_true rfl) (by decide) (c_below hj (by omega)) ?_
  refine J_if_eq (tgt := 20) dX4_item_8 (by decide) (fun c => absurd c (by decide)) (fun _ => ?_)
  refine J_aload_0 dX4_item_11 ?_
  refine J_get dX4_item_12 fl_X4_9 h0 rfl ?_
  refine J_iload_1 dX4_item_15 ?_
  refine J_iald dX4_item_16 h1 rfl (by omega) (by omega) ?_
  refine J_goto (tgt := 21) dX4_item_17 (by decide) ?_
  exact J_iret dX4_item_21 rfl (⟨rfl, rfl⟩)
theorem c_store (p : shAt h a lost form n it) {j : Nat} (hj : j < n) {v : Int32} : Ct X mX4_store 1 [.ref a, .int (nI j), .int v] h (fun r h' => r = none ∧ shAt h' a lost form n (upd it j (nar form v)) ∧ offB h h' a (a + 2)) := by
  obtain ⟨h0, ⟨f, h1, hf⟩, hfm, hn⟩ := id p
  have key : ∀ v' : Int32, v' = nar form v → J X RX4 cX4_store 3 1 none (fun r h' => r = none ∧ shAt h' a lost form n (upd it j (nar form v)) ∧ offB h h' a (a + 2)) 42 [some (.ref a), some (.int (nI j)), some (.int v)] [.int v', .int (nI j), .ref (a + 1)] h := by
    rintro v' rfl
    refine J_iast dX4_store_42 h1 rfl (by omega) (by omega) ?_
    exact J_vret dX4_store_43 rfl (⟨rfl, ⟨hAt_ne h0 (by omega), ⟨_, hAt_s h1.1, fun q hq => by unfold upd; split; rfl; exact hf q hq⟩, hfm, hn⟩, offB.hu offB.rf (by omega) (by omega)⟩)
  refine Ct_of jmX4_store [some (.ref a), some (.int (nI j)), some (.int v)] (Nat.le_of_ble_eq_true rfl) rfl ?_
  show J X RX4 cX4_store 3 _ none _ 0 _ _ _
  refine J_iload_1 dX4_store_0 ?_
  refine J_aload_0 dX4_store_1 ?_
  refine J_get dX4_store_2 fl_X4_23 h0 rfl ?_
  refine J_cN2i dX4_store_5 jmX6_isBelow ms_X4_32 (Nat.le_of_ble_eq_true rfl) (by decide) (c_below hj (by omega)) ?_
  refine J_if_eq (tgt := 43) dX4_store_8 (by decide) (fun c => absurd c (by decide)) (fun _ => ?_)
  refine J_aload_0 dX4_store_11 ?_
  refine J_get dX4_store_12 fl_X4_9 h0 rfl ?_
  refine J_iload_1 dX4_store_15 ?_
  refine J_aload_0 dX4_store_16 ?_
  refine J_get dX4_store_17 fl_X4_19 h0 rfl ?_
  first | refine J_if_neB (tgt := 28) dX4_store_20 (by decide) (fun c20 => ?_) (fun c20 => ?_) | refine J_if_neN (tgt := 28) dX4_store_20 (by decide) (by omega) (fun c20 => ?_) (fun c20 => ?_) | refine J_if_ne (tgt := 28) dX4_store_20 (by decide) (fun c20 => ?_) (fun c20 => ?_)
  · refine J_aload_0 dX4_store_28 ?_
    refine J_get dX4_store_29 fl_X4_19 h0 rfl ?_
    refine J_iconst (v := nI 1) dX4_store_32 (by decide) ?_
    first | refine J_icmp_neN (tgt := 41) dX4_store_33 (by decide) (by omega) (by omega) (fun c33 => ?_) (fun c33 => ?_) | refine J_icmp_ne (tgt := 41) dX4_store_33 (by decide) (fun c33 => ?_) (fun c33 => ?_)
    · refine J_iload_2 dX4_store_41 ?_
      exact key _ (by unfold nar; first | rw [if_pos c20] | rw [if_neg (Nat.ne_of_gt c20), if_pos c33] | rw [if_neg (Nat.ne_of_gt c20), if_neg c33])
    · refine J_iload_2 dX4_store_36 ?_
      refine J_i2s dX4_store_37 ?_
      refine J_goto (tgt := 42) dX4_store_38 (by decide) ?_
      exact key _ (by unfold nar; first | rw [if_pos c20] | rw [if_neg (Nat.ne_of_gt c20), if_pos c33] | rw [if_neg (Nat.ne_of_gt c20), if_neg c33])
  · refine J_iload_2 dX4_store_23 ?_
    refine J_i2b dX4_store_24 ?_
    refine J_goto (tgt := 42) dX4_store_25 (by decide) ?_
    exact key _ (by unfold nar; first | rw [if_pos c20] | rw [if_neg (Nat.ne_of_gt c20), if_pos c33] | rw [if_neg (Nat.ne_of_gt c20), if_neg c33])
end
