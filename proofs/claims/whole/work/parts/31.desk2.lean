/-! changes of the state -/
def dSN (D : DS) (l n : Nat) : DS := (fun j => if j = l then n else D.1 j, D.2)
def dSE (D : DS) (l e : Nat) (y : Nat → Nat) : DS := (D.1, (fun j => if j = l then eset (D.2.1 l) e y else D.2.1 j), D.2.2)
def dSS (D : DS) (i v : Nat) : DS := (D.1, D.2.1, (fun j => if j = i then v else D.2.2.1 j), D.2.2.2)
def dSL (D : DS) (r v : Nat) : DS := (D.1, D.2.1, D.2.2.1, (fun j => if j = r then v else D.2.2.2.1 j), D.2.2.2.2)
def dSH (D : DS) (s : Nat) (q : Bool × Nat × Nat × (Nat → Int32)) : DS := (D.1, D.2.1, D.2.2.1, D.2.2.2.1, (fun j => if j = s then q else D.2.2.2.2.1 j), D.2.2.2.2.2)
def dSF (D : DS) (f : Nat) : DS := (D.1, D.2.1, D.2.2.1, D.2.2.2.1, D.2.2.2.2.1, f)
def dSW (D : DS) : DS := (fun j => if j = 0 then D.1 1 else D.1 0, (fun j => if j = 0 then D.2.1 1 else D.2.1 0), D.2.2)
def fnd (k : Nat) : Int32 := -10 - nI k
theorem dk_cut {h h' : HF} {D D' : DS} {ca : Nat → Nat} {xs : Nat → Nat → Nat → Nat} (p : dkAt h D ca xs) {l n' : Nat} {x' : Nat → Nat → Nat} (hl : l < 2) (ho : offB h h' (ca l) (ca l + 10)) (hC : cutAt h' (ca l) n' x') (e0 : dn D' l = n') (e1 : ∀ j, j ≠ l → dn D' j = dn D j ∧ de D' j = de D j) (e2 : ∀ e, e < n' → de D' l e = x' e) (e3 : D'.2.2 = D.2.2) : dkAt h' D' ca (fun j => if j = l then x' else xs j) := by
  obtain ⟨h0, ⟨fc, hfc, hfc0⟩, hca, hcut, ⟨fl, hfl, hfl0⟩, ⟨fs, hfs, hfs0⟩, ⟨fh, hfh, hfh0⟩, hsh, ⟨fp, hfp, hfp0⟩, ⟨n6, g6, h6⟩, h33, ⟨t11, f11, h11⟩, hxs, k1, k2, k3, k4, k5, k6, k7, k8⟩ := p
  have hcl : ca l = 13 ∨ ca l = 23 := by rcases (show l = 0 ∨ l = 1 by omega) with rfl | rfl <;> omega
  have hcx : ∀ j, j < 2 → j ≠ l → ca j + 10 ≤ ca l ∨ ca l + 10 ≤ ca j := by
    intro j hj hne
    rcases (show l = 0 ∨ l = 1 by omega) with rfl | rfl <;> rcases (show j = 0 ∨ j = 1 by omega) with rfl | rfl <;> omega
  have m : ∀ {a : Nat} {c : AE}, hAt h a c → (a < 13 ∨ 33 ≤ a) → hAt h' a c := fun q r => ⟨q.1, (ho _ (by omega)).trans q.2⟩
  have z1 : dst D' = dst D := by unfold dst; rw [e3]
  have z2 : dl D' = dl D := by unfold dl; rw [e3]
  have z3 : dsh D' = dsh D := by unfold dsh; rw [e3]
  have z4 : dfi D' = dfi D := by unfold dfi; rw [e3]
  refine ⟨by rw [z4]; exact m h0 (by omega), ⟨fc, m hfc (by omega), hfc0⟩, hca, fun j hj => ?_, ⟨fl, m hfl (by omega), by rw [z2]; exact hfl0⟩, ⟨fs, m hfs (by omega), by rw [z1]; exact hfs0⟩, ⟨fh, m hfh (by omega), hfh0⟩, fun s hs => ?_, ⟨fp, m hfp (by omega), hfp0⟩, ⟨n6, g6, sp_other h6 (fun b l u => ho b (by omega))⟩, fun j hj => ?_, ⟨t11, f11, ma_other h11 (fun b l u => ho b (by omega))⟩, fun j e hj he => ?_, by rw [z1]; exact k1, by rw [z1]; exact k2, by rw [z1]; exact k3, by rw [z2]; exact k4, by rw [z4]; exact k5, fun j hj => ?_, fun j e hj he => ?_, by rw [z3]; exact k8⟩
  · dsimp only
    by_cases q : j = l
    · subst q
      rw [if_pos rfl, e0]
      exact hC
    · rw [if_neg q, (e1 j q).1]
      exact cut_other (hcut j hj) (fun b l u => ho b (by have := hcx j hj q; omega))
  · rw [z3]
    exact sh_other (hsh s hs) (fun b l u => ho b (by omega))
  · obtain ⟨n, g, q⟩ := h33 j hj
    exact ⟨n, g, sp_other q (fun b l u => ho b (by omega))⟩
  · dsimp only
    by_cases q : j = l
    · subst q
      rw [if_pos rfl, e2 e (by rw [← e0]; exact he)]
    · rw [if_neg q, (e1 j q).2]
      rw [(e1 j q).1] at he
      exact hxs j e hj he
  · by_cases q : j = l
    · subst q
      rw [e0]
      exact hC.2.2.2
    · rw [(e1 j q).1]
      exact k6 j hj
  · by_cases q : j = l
    · subst q
      rw [e0] at he
      rw [e2 e he]
      exact (hC.2.2.1 e (by have := hC.2.2.2; omega)).2
    · rw [(e1 j q).1] at he
      rw [(e1 j q).2]
      exact k7 j e hj he
theorem dk_find {h : HF} {D : DS} {ca : Nat → Nat} {xs : Nat → Nat → Nat → Nat} (p : dkAt h D ca xs) {f : Nat} (hf : f ≤ 5) : dkAt (hu h 0 (oB 5 [.ref 1, .ref 2, .ref 3, .ref 4, .ref 5, .ref 6, .ref 11, .int (nI f)])) (dSF D f) ca xs := by
  obtain ⟨h0, ⟨fc, hfc, hfc0⟩, hca, hcut, ⟨fl, hfl, hfl0⟩, ⟨fs, hfs, hfs0⟩, ⟨fh, hfh, hfh0⟩, hsh, ⟨fp, hfp, hfp0⟩, ⟨n6, g6, h6⟩, h33, ⟨t11, f11, h11⟩, hxs, k1, k2, k3, k4, k5, k6⟩ := p
  have m : ∀ {a : Nat} {c c' : AE}, hAt h a c → 0 < a → hAt (hu h 0 c') a c := fun q r => hAt_ne q (by omega)
  have o : ∀ {c' : AE} (b : Nat), 0 < b → hu h 0 c' b = h b := fun b r => hu_ne (by omega)
  refine ⟨hAt_s h0.1, ⟨fc, m hfc (by omega), hfc0⟩, hca, fun j hj => cut_other (hcut j hj) (fun b l u => o b ?_), ⟨fl, m hfl (by omega), hfl0⟩, ⟨fs, m hfs (by omega), hfs0⟩, ⟨fh, m hfh (by omega), hfh0⟩, fun s hs => sh_other (hsh s hs) (fun b l u => o b (by omega)), ⟨fp, m hfp (by omega), hfp0⟩, ⟨n6, g6, sp_other h6 (fun b l u => o b (by omega))⟩, fun j hj => ?_, ⟨t11, f11, ma_other h11 (fun b l u => o b (by omega))⟩, hxs, k1, k2, k3, k4, hf, k6⟩
  · rcases (show j = 0 ∨ j = 1 by omega) with rfl | rfl <;> omega
  · obtain ⟨n, g, q⟩ := h33 j hj
    exact ⟨n, g, sp_other q (fun b l u => o b (by omega))⟩
section
variable {X : Cx} {h : HF} {D : DS} {ca : Nat → Nat} {xs : Nat → Nat → Nat → Nat}
theorem ca_lt (hca : (ca 0 = 13 ∧ ca 1 = 23) ∨ (ca 0 = 23 ∧ ca 1 = 13)) {l : Nat} (hl : l < 2) : ca l = 13 ∨ ca l = 23 := by rcases (show l = 0 ∨ l = 1 by omega) with rfl | rfl <;> omega
theorem c_found (p : dkAt h D ca xs) {k : Nat} : Ct X mX6_found 0 [.ref 0, .int (nI k)] h (fun r h' => r = some (.int (fnd k)) ∧ h' = hu h 0 (oB 5 [.ref 1, .ref 2, .ref 3, .ref 4, .ref 5, .ref 6, .ref 11, .int (nI k)])) := by
  have h0 := p.1
  refine Ct_of jmX6_found [some (.ref 0), some (.int (nI k))] (Nat.le_of_ble_eq_true rfl) rfl ?_
  show J X RX6 cX6_found 2 _ (some .int) _ 0 _ _ _
  refine J_aload_0 dX6_found_0 ?_
  refine J_iload_1 dX6_found_1 ?_
  refine J_put dX6_found_2 fp_X6_122 h0 (Nat.le_of_ble_eq_true rfl) rfl rfl ?_
  refine J_bipush (v := -10) dX6_found_5 (by decide) ?_
  refine J_iload_1 dX6_found_7 ?_
  refine J_isub dX6_found_8 ?_
  exact J_iret dX6_found_9 rfl (⟨rfl, rfl⟩)
theorem c_edit_bad {l r i m p q : Int32} (hb : ¬ (∃ j, j < 2 ∧ l = nI j) ∨ ¬ edI r i m p q) : CtI X mX6_edit 3 [.ref 0, .int l, .int r, .int i, .int m, .int p, .int q] h (-2) := by
  refine Ct_of jmX6_edit [some (.ref 0), some (.int l), some (.int r), some (.int i), some (.int m), some (.int p), some (.int q), none] (Nat.le_of_ble_eq_true rfl) rfl ?_
  show J X RX6 cX6_edit 8 _ (some .int) _ 0 _ _ _
  rcases ix_cases l 2 (by decide) with ⟨j, hj, rfl⟩ | hl
  · have he := c_mayEdit (X := X) (h := h) (Classical.propDecidable (edI r i m p q))
    rw [if_neg (hb.elim (fun z => absurd ⟨j, hj, rfl⟩ z) id)] at he
    refine J_iload_1 dX6_edit_0 ?_
    refine J_iconst (v := nI 2) dX6_edit_1 (by decide) ?_
    refine J_cS2i dX6_edit_2 jmX6_isBelow ms_X6_60 (Nat.le_of_ble_eq_true rfl) (by decide) (c_below hj (by decide)) ?_
    refine J_if_eq (tgt := 22) dX6_edit_5 (by decide) (fun c => absurd c (by decide)) (fun _ => ?_)
    refine J_iload_2 dX6_edit_8 ?_
    refine J_iload_3 dX6_edit_9 ?_
    refine J_iload_4 dX6_edit_10 ?_
    refine J_iload_5 dX6_edit_12 ?_
    refine J_iload_6 dX6_edit_14 ?_
    refine J_cS5i dX6_edit_16 jmX6_mayBeEdit ms_X6_64 (Nat.le_of_ble_eq_true rfl) (by decide) (he) ?_
    refine J_if_ne (tgt := 25) dX6_edit_19 (by decide) (fun c => absurd c (by decide)) (fun _ => ?_)
    refine J_bipush (v := -2) dX6_edit_22 (by decide) ?_
    exact J_iret dX6_edit_24 rfl (⟨rfl, rfl⟩)
  · refine J_iload_1 dX6_edit_0 ?_
    refine J_iconst (v := nI 2) dX6_edit_1 (by decide) ?_
    refine J_cS2i dX6_edit_2 jmX6_isBelow ms_X6_60 (Nat.le_of_ble_eq_true rfl) (by decide) (c_nbelow hl) ?_
    refine J_if_eq (tgt := 22) dX6_edit_5 (by decide) (fun _ => ?_) (fun c => absurd (by decide) c)
    refine J_bipush (v := -2) dX6_edit_22 (by decide) ?_
    exact J_iret dX6_edit_24 rfl (⟨rfl, rfl⟩)
theorem c_edit_full (p : dkAt h D ca xs) {l : Nat} {r i m q u : Int32} (hl : l < 2) (ok : edI r i m q u) (hn : dn D l = 8) : CtI X mX6_edit 3 [.ref 0, .int (nI l), .int r, .int i, .int m, .int q, .int u] h (-4) := by
  obtain ⟨h0, ⟨fc, hfc, hfc0⟩, hca, hcut, -⟩ := id p
  have hC := hcut l hl
  have he := c_mayEdit (X := X) (h := h) (Classical.propDecidable (edI r i m q u))
  rw [if_pos ok] at he
  have hf := c_cutFull (X := X) hC
  rw [bI_t hn] at hf
  have hc := hC.1
  refine Ct_of jmX6_edit [some (.ref 0), some (.int (nI l)), some (.int r), some (.int i), some (.int m), some (.int q), some (.int u), none] (Nat.le_of_ble_eq_true rfl) rfl ?_
  show J X RX6 cX6_edit 8 _ (some .int) _ 0 _ _ _
  refine J_iload_1 dX6_edit_0 ?_
  refine J_iconst (v := nI 2) dX6_edit_1 (by decide) ?_
  refine J_cS2i dX6_edit_2 jmX6_isBelow ms_X6_60 (Nat.le_of_ble_eq_true rfl) (by decide) (c_below hl (by decide)) ?_
  refine J_if_eq (tgt := 22) dX6_edit_5 (by decide) (fun c => absurd c (by decide)) (fun _ => ?_)
  refine J_iload_2 dX6_edit_8 ?_
  refine J_iload_3 dX6_edit_9 ?_
  refine J_iload_4 dX6_edit_10 ?_
  refine J_iload_5 dX6_edit_12 ?_
  refine J_iload_6 dX6_edit_14 ?_
  refine J_cS5i dX6_edit_16 jmX6_mayBeEdit ms_X6_64 (Nat.le_of_ble_eq_true rfl) (by decide) (he) ?_
  refine J_if_ne (tgt := 25) dX6_edit_19 (by decide) (fun _ => ?_) (fun c => absurd c (by decide))
  refine J_aload_0 dX6_edit_25 ?_
  refine J_get dX6_edit_26 fl_X6_11 h0 rfl ?_
  refine J_iload_1 dX6_edit_29 ?_
  refine J_aald dX6_edit_30 hfc ⟨_, rfl⟩ rfl (by omega) (by omega) (hfc0 l hl) ?_
  refine J_astore_7 dX6_edit_31 (Nat.le_of_ble_eq_true rfl) rfl ?_
  refine J_aload_7 dX6_edit_33 ?_
  refine J_cV0i dX6_edit_35 jmX1_isFull mv_X6_68 hc rfl (Nat.le_of_ble_eq_true rfl) (by decide) (hf) ?_
  refine J_if_eq (tgt := 44) dX6_edit_38 (by decide) (fun c => absurd c (by decide)) (fun _ => ?_)
  refine J_bipush (v := -4) dX6_edit_41 (by decide) ?_
  exact J_iret dX6_edit_43 rfl (⟨rfl, rfl⟩)
theorem c_edit_ok (p : dkAt h D ca xs) {l : Nat} {y : Nat → Nat} (hl : l < 2) (ok : edI (nI (y 0)) (nI (y 1)) (nI (y 2)) (nI (y 3)) (nI (y 4))) (oky : edOk y) (hn : dn D l < 8) : Ct X mX6_edit 3 [.ref 0, .int (nI l), .int (nI (y 0)), .int (nI (y 1)), .int (nI (y 2)), .int (nI (y 3)), .int (nI (y 4))] h (fun r h' => r = some (.int (nI (dn D l + 1))) ∧ DeskAt h' (dSN (dSE D l (dn D l) y) l (dn D l + 1)) ∧ offB h h' 0 51) := by
  obtain ⟨h0, ⟨fc, hfc, hfc0⟩, hca, hcut, hrest⟩ := id p
  have hC := hcut l hl
  have hcl := ca_lt hca hl
  have he := c_mayEdit (X := X) (h := h) (Classical.propDecidable (edI (nI (y 0)) (nI (y 1)) (nI (y 2)) (nI (y 3)) (nI (y 4))))
  rw [if_pos ok] at he
  have hf := c_cutFull (X := X) hC
  rw [bI_f (by omega)] at hf
  have hc := hC.1
  have hC2 := cut_setN (cut_setEd hC hn oky) (m := dn D l + 1) (by omega)
  have hag : ∀ e, e < dn D l + 1 → de (dSN (dSE D l (dn D l) y) l (dn D l + 1)) l e = eset (xs l) (dn D l) y e := by
    intro e he
    show (if l = l then eset (D.2.1 l) (dn D l) y else D.2.1 l) e = eset (xs l) (dn D l) y e
    rw [if_pos rfl]
    by_cases z : e = dn D l
    · rw [z, eset_s, eset_s]
    · rw [eset_n z, eset_n z]
      exact (hrest.2.2.2.2.2.2.2.2.1 l e hl (by omega)).symm
  refine Ct_of jmX6_edit [some (.ref 0), some (.int (nI l)), some (.int (nI (y 0))), some (.int (nI (y 1))), some (.int (nI (y 2))), some (.int (nI (y 3))), some (.int (nI (y 4))), none] (Nat.le_of_ble_eq_true rfl) rfl ?_
  show J X RX6 cX6_edit 8 _ (some .int) _ 0 _ _ _
  refine J_iload_1 dX6_edit_0 ?_
  refine J_iconst (v := nI 2) dX6_edit_1 (by decide) ?_
  refine J_cS2i dX6_edit_2 jmX6_isBelow ms_X6_60 (Nat.le_of_ble_eq_true rfl) (by decide) (c_below hl (by decide)) ?_
  refine J_if_eq (tgt := 22) dX6_edit_5 (by decide) (fun c => absurd c (by decide)) (fun _ => ?_)
  refine J_iload_2 dX6_edit_8 ?_
  refine J_iload_3 dX6_edit_9 ?_
  refine J_iload_4 dX6_edit_10 ?_
  refine J_iload_5 dX6_edit_12 ?_
  refine J_iload_6 dX6_edit_14 ?_
  refine J_cS5i dX6_edit_16 jmX6_mayBeEdit ms_X6_64 (Nat.le_of_ble_eq_true rfl) (by decide) (he) ?_
  refine J_if_ne (tgt := 25) dX6_edit_19 (by decide) (fun _ => ?_) (fun c => absurd c (by decide))
  refine J_aload_0 dX6_edit_25 ?_
  refine J_get dX6_edit_26 fl_X6_11 h0 rfl ?_
  refine J_iload_1 dX6_edit_29 ?_
  refine J_aald dX6_edit_30 hfc ⟨_, rfl⟩ rfl (by omega) (by omega) (hfc0 l hl) ?_
  refine J_astore_7 dX6_edit_31 (Nat.le_of_ble_eq_true rfl) rfl ?_
  refine J_aload_7 dX6_edit_33 ?_
  refine J_cV0i dX6_edit_35 jmX1_isFull mv_X6_68 hc rfl (Nat.le_of_ble_eq_true rfl) (by decide) (hf) ?_
  refine J_if_eq (tgt := 44) dX6_edit_38 (by decide) (fun _ => ?_) (fun c => absurd (by decide) c)
  refine J_aload_7 dX6_edit_44 ?_
  refine J_iload_2 dX6_edit_46 ?_
  refine J_iload_3 dX6_edit_47 ?_
  refine J_iload_4 dX6_edit_48 ?_
  refine J_iload_5 dX6_edit_50 ?_
  refine J_iload_6 dX6_edit_52 ?_
  refine J_cV5 dX6_edit_54 jmX1_append mv_X6_72 hc rfl (Nat.le_of_ble_eq_true rfl) (by decide) (c_append hC hn oky) (fun r h' q => ?_)
  obtain ⟨rfl, rfl⟩ := q
  refine J_aload_7 dX6_edit_57 ?_
  refine J_get dX6_edit_59 fl_X6_76 hC2.1 rfl ?_
  exact J_iret dX6_edit_62 rfl (⟨rfl, ⟨ca, _, dk_cut p hl ((offB.rf.hu (by omega) (by omega)).hu (by omega) (by omega)) hC2 (if_pos rfl) (fun j hj => ⟨if_neg hj, if_neg hj⟩) hag rfl⟩, (offB.rf.hu (by omega) (by omega)).hu (by omega) (by omega)⟩)
theorem c_back_bad {l : Int32} (hb : ¬ (0 ≤ l ∧ l < nI 2)) : CtI X mX6_back 1 [.ref 0, .int l] h (-2) := by
  refine Ct_of jmX6_back [some (.ref 0), some (.int l), none] (Nat.le_of_ble_eq_true rfl) rfl ?_
  show J X RX6 cX6_back 3 _ (some .int) _ 0 _ _ _
  refine J_iload_1 dX6_back_0 ?_
  refine J_iconst (v := nI 2) dX6_back_1 (by decide) ?_
  refine J_cS2i dX6_back_2 jmX6_isBelow ms_X6_60 (Nat.le_of_ble_eq_true rfl) (by decide) (c_nbelow hb) ?_
  refine J_if_ne (tgt := 11) dX6_back_5 (by decide) (fun c => absurd c (by decide)) (fun _ => ?_)
  refine J_bipush (v := -2) dX6_back_8 (by decide) ?_
  exact J_iret dX6_back_10 rfl (⟨rfl, rfl⟩)
theorem c_back_not (p : dkAt h D ca xs) {l : Nat} (hl : l < 2) (hn : dn D l = 0) : CtI X mX6_back 1 [.ref 0, .int (nI l)] h (-3) := by
  obtain ⟨h0, ⟨fc, hfc, hfc0⟩, hca, hcut, hrest⟩ := id p
  have hc := (hcut l hl).1
  refine Ct_of jmX6_back [some (.ref 0), some (.int (nI l)), none] (Nat.le_of_ble_eq_true rfl) rfl ?_
  show J X RX6 cX6_back 3 _ (some .int) _ 0 _ _ _
  refine J_iload_1 dX6_back_0 ?_
  refine J_iconst (v := nI 2) dX6_back_1 (by decide) ?_
  refine J_cS2i dX6_back_2 jmX6_isBelow ms_X6_60 (Nat.le_of_ble_eq_true rfl) (by decide) (c_below hl (by decide)) ?_
  refine J_if_ne (tgt := 11) dX6_back_5 (by decide) (fun _ => ?_) (fun c => absurd c (by decide))
  refine J_aload_0 dX6_back_11 ?_
  refine J_get dX6_back_12 fl_X6_11 h0 rfl ?_
  refine J_iload_1 dX6_back_15 ?_
  refine J_aald dX6_back_16 hfc ⟨_, rfl⟩ rfl (by omega) (by omega) (hfc0 l hl) ?_
  refine J_astore_2 dX6_back_17 (Nat.le_of_ble_eq_true rfl) rfl ?_
  refine J_aload_2 dX6_back_18 ?_
  refine J_get dX6_back_19 fl_X6_76 hc rfl ?_
  refine J_if_neN (tgt := 28) dX6_back_22 (by decide) (by omega) (fun c => absurd c (by omega)) (fun _ => ?_)
  refine J_bipush (v := -3) dX6_back_25 (by decide) ?_
  exact J_iret dX6_back_27 rfl (⟨rfl, rfl⟩)
theorem c_back_ok (p : dkAt h D ca xs) {l : Nat} (hl : l < 2) (hn : 0 < dn D l) : Ct X mX6_back 1 [.ref 0, .int (nI l)] h (fun r h' => r = some (.int (nI (dn D l - 1))) ∧ DeskAt h' (dSN D l (dn D l - 1)) ∧ offB h h' 0 51) := by
  obtain ⟨h0, ⟨fc, hfc, hfc0⟩, hca, hcut, hrest⟩ := id p
  have hC := hcut l hl
  have hcl := ca_lt hca hl
  have hc := hC.1
  have hn8 := hC.2.2.2
  have hC2 := cut_setN hC (m := dn D l - 1) (by omega)
  refine Ct_of jmX6_back [some (.ref 0), some (.int (nI l)), none] (Nat.le_of_ble_eq_true rfl) rfl ?_
  show J X RX6 cX6_back 3 _ (some .int) _ 0 _ _ _
  refine J_iload_1 dX6_back_0 ?_
  refine J_iconst (v := nI 2) dX6_back_1 (by decide) ?_
  refine J_cS2i dX6_back_2 jmX6_isBelow ms_X6_60 (Nat.le_of_ble_eq_true rfl) (by decide) (c_below hl (by decide)) ?_
  refine J_if_ne (tgt := 11) dX6_back_5 (by decide) (fun _ => ?_) (fun c => absurd c (by decide))
  refine J_aload_0 dX6_back_11 ?_
  refine J_get dX6_back_12 fl_X6_11 h0 rfl ?_
  refine J_iload_1 dX6_back_15 ?_
  refine J_aald dX6_back_16 hfc ⟨_, rfl⟩ rfl (by omega) (by omega) (hfc0 l hl) ?_
  refine J_astore_2 dX6_back_17 (Nat.le_of_ble_eq_true rfl) rfl ?_
  refine J_aload_2 dX6_back_18 ?_
  refine J_get dX6_back_19 fl_X6_76 hc rfl ?_
  refine J_if_neN (tgt := 28) dX6_back_22 (by decide) (by omega) (fun _ => ?_) (fun c => absurd c (by omega))
  refine J_aload_2 dX6_back_28 ?_
  refine J_dup dX6_back_29 rfl ?_
  refine J_get dX6_back_30 fl_X6_76 hc rfl ?_
  refine J_iconst (v := nI 1) dX6_back_33 (by decide) ?_
  first | refine J_isubN dX6_back_34 (by omega) ?_ | refine J_isub dX6_back_34 ?_
  refine J_put dX6_back_35 fp_X6_76 hc (Nat.le_of_ble_eq_true rfl) rfl rfl ?_
  refine J_aload_2 dX6_back_38 ?_
  refine J_get dX6_back_39 fl_X6_76 hC2.1 rfl ?_
  exact J_iret dX6_back_42 rfl (⟨rfl, ⟨ca, _, dk_cut p hl (offB.rf.hu (by omega) (by omega)) hC2 (if_pos rfl) (fun j hj => ⟨if_neg hj, rfl⟩) (fun e he => (hrest.2.2.2.2.2.2.2.2.1 l e hl (by omega)).symm) rfl⟩, offB.rf.hu (by omega) (by omega)⟩)
theorem c_trim_bad (p : dkAt h D ca xs) {l e w v : Int32} (hb : ¬ (∃ j k u, j < 2 ∧ k < dn D j ∧ u < 4 ∧ l = nI j ∧ e = nI k ∧ w = nI u ∧ ptI u v)) : CtI X mX6_trim 2 [.ref 0, .int l, .int e, .int w, .int v] h (-2) := by
  have h0 := p.1
  refine Ct_of jmX6_trim [some (.ref 0), some (.int l), some (.int e), some (.int w), some (.int v), none, none] (Nat.le_of_ble_eq_true rfl) rfl ?_
  show J X RX6 cX6_trim 7 _ (some .int) _ 0 _ _ _
  by_cases hE : ∃ j k, j < 2 ∧ k < dn D j ∧ l = nI j ∧ e = nI k
  · obtain ⟨j, k, hj, hk, rfl, rfl⟩ := hE
    have hm : CtI X mX6_mayBePart 1 [.int w, .int v] h 0 := by
      rcases ix_cases w 4 (by decide) with ⟨u, hu, rfl⟩ | q
      · have z := c_mayPart (X := X) (h := h) (v := v) hu
        rw [if_neg (show ¬ (jt1 u ≤ v ∧ v ≤ jt2 u) from fun z => hb ⟨j, k, u, hj, hk, hu, rfl, rfl, rfl, z⟩)] at z
        exact z
      · exact c_mayPartNo q
    refine J_aload_0 dX6_trim_0 ?_
    refine J_iload_1 dX6_trim_1 ?_
    refine J_iload_2 dX6_trim_2 ?_
    refine J_cV2i dX6_trim_3 jmX6_isEdit mv_X6_80 h0 rfl (Nat.le_of_ble_eq_true rfl) (by decide) (c_isEditT p hj hk) ?_
    refine J_if_eq (tgt := 18) dX6_trim_6 (by decide) (fun c => absurd c (by decide)) (fun _ => ?_)
    refine J_iload_3 dX6_trim_9 ?_
    refine J_iload_4 dX6_trim_10 ?_
    refine J_cS2i dX6_trim_12 jmX6_mayBePart ms_X6_83 (Nat.le_of_ble_eq_true rfl) (by decide) (hm) ?_
    refine J_if_ne (tgt := 21) dX6_trim_15 (by decide) (fun c => absurd c (by decide)) (fun _ => ?_)
    refine J_bipush (v := -2) dX6_trim_18 (by decide) ?_
    exact J_iret dX6_trim_20 rfl (⟨rfl, rfl⟩)
  · refine J_aload_0 dX6_trim_0 ?_
    refine J_iload_1 dX6_trim_1 ?_
    refine J_iload_2 dX6_trim_2 ?_
    refine J_cV2i dX6_trim_3 jmX6_isEdit mv_X6_80 h0 rfl (Nat.le_of_ble_eq_true rfl) (by decide) (c_isEditF p hE) ?_
    refine J_if_eq (tgt := 18) dX6_trim_6 (by decide) (fun _ => ?_) (fun c => absurd (by decide) c)
    refine J_bipush (v := -2) dX6_trim_18 (by decide) ?_
    exact J_iret dX6_trim_20 rfl (⟨rfl, rfl⟩)
theorem c_trim_ok (p : dkAt h D ca xs) {l e w v : Nat} (hl : l < 2) (he : e < dn D l) (hw : w < 4) (hv : ptI w (nI v)) (oky : edOk (kset (de D l e) (w + 1) v)) : Ct X mX6_trim 2 [.ref 0, .int (nI l), .int (nI e), .int (nI w), .int (nI v)] h (fun r h' => r = some (.int (nI (de D l e (w + 1)))) ∧ DeskAt h' (dSE D l e (kset (de D l e) (w + 1) v)) ∧ offB h h' 0 51) := by
  obtain ⟨h0, ⟨fc, hfc, hfc0⟩, hca, hcut, hrest⟩ := id p
  have hC := hcut l hl
  have hcl := ca_lt hca hl
  obtain ⟨hc, ⟨g, hf, hfe⟩, hE, hn8⟩ := id hC
  have hxe : xs l e = de D l e := hrest.2.2.2.2.2.2.2.2.1 l e hl he
  have hEe := hE e (by omega)
  rw [hxe] at hEe
  have hE1 := hEe.1
  have hm := c_mayPart (X := X) (h := h) (v := nI v) hw
  rw [if_pos (show jt1 w ≤ nI v ∧ nI v ≤ jt2 w from hv)] at hm
  have hC2 := cut_setEd hC (e := e) (by omega) oky
  have hag : ∀ i, i < dn D l → de (dSE D l e (kset (de D l e) (w + 1) v)) l i = eset (xs l) e (kset (de D l e) (w + 1) v) i := by
    intro i hi
    show (if l = l then eset (D.2.1 l) e _ else D.2.1 l) i = eset (xs l) e _ i
    rw [if_pos rfl]
    by_cases z : i = e
    · rw [z, eset_s, eset_s]
    · rw [eset_n z, eset_n z]
      exact (hrest.2.2.2.2.2.2.2.2.1 l i hl hi).symm
  refine Ct_of jmX6_trim [some (.ref 0), some (.int (nI l)), some (.int (nI e)), some (.int (nI w)), some (.int (nI v)), none, none] (Nat.le_of_ble_eq_true rfl) rfl ?_
  show J X RX6 cX6_trim 7 _ (some .int) _ 0 _ _ _
  refine J_aload_0 dX6_trim_0 ?_
  refine J_iload_1 dX6_trim_1 ?_
  refine J_iload_2 dX6_trim_2 ?_
  refine J_cV2i dX6_trim_3 jmX6_isEdit mv_X6_80 h0 rfl (Nat.le_of_ble_eq_true rfl) (by decide) (c_isEditT p hl he) ?_
  refine J_if_eq (tgt := 18) dX6_trim_6 (by decide) (fun c => absurd c (by decide)) (fun _ => ?_)
  refine J_iload_3 dX6_trim_9 ?_
  refine J_iload_4 dX6_trim_10 ?_
  refine J_cS2i dX6_trim_12 jmX6_mayBePart ms_X6_83 (Nat.le_of_ble_eq_true rfl) (by decide) (hm) ?_
  refine J_if_ne (tgt := 21) dX6_trim_15 (by decide) (fun _ => ?_) (fun c => absurd c (by decide))
  refine J_aload_0 dX6_trim_21 ?_
  refine J_get dX6_trim_22 fl_X6_11 h0 rfl ?_
  refine J_iload_1 dX6_trim_25 ?_
  refine J_aald dX6_trim_26 hfc ⟨_, rfl⟩ rfl (by omega) (by omega) (hfc0 l hl) ?_
  refine J_get dX6_trim_27 fl_X6_86 hc rfl ?_
  refine J_iload_2 dX6_trim_30 ?_
  refine J_aald dX6_trim_31 hf ⟨_, rfl⟩ rfl (by omega) (by omega) (hfe e (by omega)) ?_
  refine J_astore_5 dX6_trim_32 (Nat.le_of_ble_eq_true rfl) rfl ?_
  refine J_aload_5 dX6_trim_34 ?_
  refine J_iload_3 dX6_trim_36 ?_
  refine J_cV1i dX6_trim_37 jmX2_part mv_X6_90 hE1 rfl (Nat.le_of_ble_eq_true rfl) (by decide) (c_part hEe hw) ?_
  refine J_istore_6 dX6_trim_40 (Nat.le_of_ble_eq_true rfl) rfl ?_
  refine J_aload_5 dX6_trim_42 ?_
  refine J_iload_3 dX6_trim_44 ?_
  refine J_iload_4 dX6_trim_45 ?_
  refine J_cV2 dX6_trim_47 jmX2_become mv_X6_96 hE1 rfl (Nat.le_of_ble_eq_true rfl) (by decide) (c_become hEe hw) (fun r h' q => ?_)
  obtain ⟨rfl, rfl⟩ := q
  refine J_iload_6 dX6_trim_50 ?_
  exact J_iret dX6_trim_52 rfl (⟨rfl, ⟨ca, _, dk_cut p hl (offB.rf.hu (by omega) (by omega)) hC2 rfl (fun j hj => ⟨rfl, if_neg hj⟩) hag rfl⟩, offB.rf.hu (by omega) (by omega)⟩)
end
