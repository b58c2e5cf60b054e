/-! what depends on the EDITS that count alone -/
theorem bg_congr {x y : Nat → Nat → Nat} {e : Nat} (h : ∀ j, j < e → x j = y j) : bg x e = bg y e := by
  induction e with
  | zero => rfl
  | succ e ih => rw [bg, bg, ih (fun j hj => h j (by omega)), h e (by omega)]
theorem hold_congr {x y : Nat → Nat → Nat} {f : Nat} : ∀ (k e : Nat), (∀ j, j < e + k → x j = y j) → hold x f e k = hold y f e k := by
  intro k
  induction k with
  | zero => intro e _; rfl
  | succ k ih =>
    intro e h
    rw [hold, hold, ih (e + 1) (fun j hj => h j (by omega)), bg_congr (fun j hj => h j (by omega))]
theorem tms_congr {x y : Nat → Nat → Nat} {r f : Nat} : ∀ (k e : Nat), (∀ j, j < e + k → x j = y j) → tms x r f e k = tms y r f e k := by
  intro k
  induction k with
  | zero => intro e _; rfl
  | succ k ih =>
    intro e h
    rw [tms, tms, ih (e + 1) (fun j hj => h j (by omega)), h e (by omega)]
theorem fss_congr {x y : Nat → Nat → Nat} {r f : Nat} : ∀ (k e : Nat), (∀ j, j < e + k → x j = y j) → fss x r f e k = fss y r f e k := by
  intro k
  induction k with
  | zero => intro e _; rfl
  | succ k ih =>
    intro e h
    rw [fss, fss, ih (e + 1) (fun j hj => h j (by omega)), h e (by omega), bg_congr (fun j hj => h j (by omega))]
theorem shk_congr {x y : Nat → Nat → Nat} {n e : Nat} (he : e < n) (h : ∀ j, j < n → x j = y j) : ∀ (m k : Nat), shk x n e k m = shk y n e k m := by
  intro m
  induction m with
  | zero => intro k; rfl
  | succ m ih =>
    intro k
    rw [shk, shk, ih, h e he, fss_congr n 0 (fun j hj => h j (by omega)), bg_congr (fun j hj => h j (by omega))]
theorem sh_congr {x y : Nat → Nat → Nat} {n : Nat} (h : ∀ j, j < n → x j = y j) : ∀ (m e : Nat), e + m ≤ n → sh x n e m = sh y n e m := by
  intro m
  induction m with
  | zero => intro e _; rfl
  | succ m ih =>
    intro e he
    rw [sh, sh, ih (e + 1) (by omega), shk_congr (by omega) h, h e (by omega)]
theorem hold_lt {x : Nat → Nat → Nat} {f : Nat} : ∀ (k e j : Nat), hold x f e k = some j → e ≤ j ∧ j < e + k ∧ f < bg x (j + 1) := by
  intro k
  induction k with
  | zero => intro e j z; cases z
  | succ k ih =>
    intro e j z
    rw [hold] at z
    split at z
    · rename_i q; cases z; exact ⟨Nat.le_refl _, by omega, q⟩
    · have := ih (e + 1) j z; omega
theorem hold_ge {x : Nat → Nat → Nat} {f : Nat} : ∀ (k e j : Nat), bg x e ≤ f → hold x f e k = some j → bg x j ≤ f := by
  intro k
  induction k with
  | zero => intro e j _ z; cases z
  | succ k ih =>
    intro e j hb z
    rw [hold] at z
    split at z
    · cases z; exact hb
    · rename_i q; exact ih (e + 1) j (by omega) z
def sInfo (D : DS) (l e w : Nat) : Int32 := if w < 5 then nI (de D l e w) else if w = 5 then nI (bg (de D l) e) else if w = 6 then nI (de D l e 1) else nI (fl_ (de D l e))
def sShows (D : DS) (l f w : Nat) : Int32 := match hold (de D l) f 0 (dn D l) with
  | none => -1
  | some e => if w = 0 then nI e else if w = 1 then nI (de D l e 0) else if w = 2 then nI (fr (de D l e) (f - bg (de D l) e)) else if fr (de D l e) (f - bg (de D l) e) < dl D (de D l e 0) then 0 else 1
def sSeen (D : DS) (l r f w : Nat) : Int32 := if w = 0 then nI (tms (de D l) r f 0 (dn D l)) else oN (fss (de D l) r f 0 (dn D l))
def sStill (D : DS) (l e w : Nat) : Int32 := if w = 0 then nI (de D l e 2) - nI (eddiff (de D l e)) else nI (fl_ (de D l e) - de D l e 1 + 1) - nI (eddiff (de D l e))
section
variable {X : Cx} {h : HF} {D : DS} {ca : Nat → Nat} {xs : Nat → Nat → Nat → Nat}
theorem c_info_bad (p : dkAt h D ca xs) {l e w : Int32} (hb : ¬ ∃ j k u, j < 2 ∧ k < dn D j ∧ u < 8 ∧ l = nI j ∧ e = nI k ∧ w = nI u) : CtI X mX6_info 2 [.ref 0, .int l, .int e, .int w] h (-2) := by
  obtain ⟨h0, ⟨fc, hfc, hfc0⟩, hca, hcut, hrest⟩ := id p
  refine Ct_of jmX6_info [some (.ref 0), some (.int l), some (.int e), some (.int w), none, none] (Nat.le_of_ble_eq_true rfl) rfl ?_
  show J X RX6 cX6_info 6 _ (some .int) _ 0 _ _ _
  by_cases hE : ∃ j k, j < 2 ∧ k < dn D j ∧ l = nI j ∧ e = nI k
  · obtain ⟨j, k, hj, hk, rfl, rfl⟩ := hE
    obtain ⟨hc, ⟨g, hf, hfe⟩, hE, hn8⟩ := hcut j hj
    have hw : w.toInt < 0 ∨ 7 < w.toInt := by
      rcases ix_cases w 8 (by decide) with ⟨u, hu, rfl⟩ | q
      · exact absurd ⟨j, k, u, hj, hk, hu, rfl, rfl, rfl⟩ hb
      · rcases Int.lt_or_le w.toInt 0 with z | z
        · exact Or.inl z
        · right
          refine Int.lt_of_not_ge fun y => q ⟨Int32.le_iff_toInt_le.mpr (by rw [Int32.toInt_zero]; exact z), Int32.lt_iff_toInt_lt.mpr ?_⟩
          rw [show (nI 8).toInt = 8 from by decide]
          omega
    refine J_aload_0 dX6_info_0 ?_
    refine J_iload_1 dX6_info_1 ?_
    refine J_iload_2 dX6_info_2 ?_
    refine J_cV2i dX6_info_3 jmX6_isEdit mv_X6_80 h0 rfl (Nat.le_of_ble_eq_true rfl) (by decide) (c_isEditT p hj hk) ?_
    refine J_if_ne (tgt := 12) dX6_info_6 (by decide) (fun _ => ?_) (fun c => absurd c (by decide))
    refine J_aload_0 dX6_info_12 ?_
    refine J_get dX6_info_13 fl_X6_11 h0 rfl ?_
    refine J_iload_1 dX6_info_16 ?_
    refine J_aald dX6_info_17 hfc ⟨_, rfl⟩ rfl (by omega) (by omega) (hfc0 j hj) ?_
    refine J_astore_4 dX6_info_18 (Nat.le_of_ble_eq_true rfl) rfl ?_
    refine J_aload_4 dX6_info_20 ?_
    refine J_get dX6_info_22 fl_X6_86 hc rfl ?_
    refine J_iload_2 dX6_info_25 ?_
    refine J_aald dX6_info_26 hf ⟨_, rfl⟩ rfl (by omega) (by omega) (hfe k (by omega)) ?_
    refine J_astore_5 dX6_info_27 (Nat.le_of_ble_eq_true rfl) rfl ?_
    refine J_iload_3 dX6_info_29 ?_
    refine J_tabOut (tgt := 125) dX6_info_30 hw (by decide) ?_
    refine J_bipush (v := -2) dX6_info_125 (by decide) ?_
    exact J_iret dX6_info_127 rfl (⟨rfl, rfl⟩)
  · refine J_aload_0 dX6_info_0 ?_
    refine J_iload_1 dX6_info_1 ?_
    refine J_iload_2 dX6_info_2 ?_
    refine J_cV2i dX6_info_3 jmX6_isEdit mv_X6_80 h0 rfl (Nat.le_of_ble_eq_true rfl) (by decide) (c_isEditF p hE) ?_
    refine J_if_ne (tgt := 12) dX6_info_6 (by decide) (fun c => absurd c (by decide)) (fun _ => ?_)
    refine J_bipush (v := -2) dX6_info_9 (by decide) ?_
    exact J_iret dX6_info_11 rfl (⟨rfl, rfl⟩)
theorem c_info_ok (p : dkAt h D ca xs) {l e w : Nat} (hl : l < 2) (he : e < dn D l) (hw : w < 8) : CtI X mX6_info 2 [.ref 0, .int (nI l), .int (nI e), .int (nI w)] h (sInfo D l e w) := by
  obtain ⟨h0, ⟨fc, hfc, hfc0⟩, hca, hcut, hrest⟩ := id p
  have hC := hcut l hl
  obtain ⟨hc, ⟨g, hf, hfe⟩, hE, hn8⟩ := id hC
  have hag := hrest.2.2.2.2.2.2.2.2.1
  have hEe := hE e (by omega)
  rw [hag l e hl he] at hEe
  have hE1 := hEe.1
  have hbg := c_begin (X := X) hC (m := e) (by omega)
  rw [bg_congr (fun j hj => hag l j hl (by omega))] at hbg
  refine Ct_of jmX6_info [some (.ref 0), some (.int (nI l)), some (.int (nI e)), some (.int (nI w)), none, none] (Nat.le_of_ble_eq_true rfl) rfl ?_
  show J X RX6 cX6_info 6 _ (some .int) _ 0 _ _ _
  rcases (show w = 0 ∨ w = 1 ∨ w = 2 ∨ w = 3 ∨ w = 4 ∨ w = 5 ∨ w = 6 ∨ w = 7 by omega) with rfl | rfl | rfl | rfl | rfl | rfl | rfl | rfl
  · refine J_aload_0 dX6_info_0 ?_
    refine J_iload_1 dX6_info_1 ?_
    refine J_iload_2 dX6_info_2 ?_
    refine J_cV2i dX6_info_3 jmX6_isEdit mv_X6_80 h0 rfl (Nat.le_of_ble_eq_true rfl) (by decide) (c_isEditT p hl he) ?_
    refine J_if_ne (tgt := 12) dX6_info_6 (by decide) (fun _ => ?_) (fun c => absurd c (by decide))
    refine J_aload_0 dX6_info_12 ?_
    refine J_get dX6_info_13 fl_X6_11 h0 rfl ?_
    refine J_iload_1 dX6_info_16 ?_
    refine J_aald dX6_info_17 hfc ⟨_, rfl⟩ rfl (by omega) (by omega) (hfc0 l hl) ?_
    refine J_astore_4 dX6_info_18 (Nat.le_of_ble_eq_true rfl) rfl ?_
    refine J_aload_4 dX6_info_20 ?_
    refine J_get dX6_info_22 fl_X6_86 hc rfl ?_
    refine J_iload_2 dX6_info_25 ?_
    refine J_aald dX6_info_26 hf ⟨_, rfl⟩ rfl (by omega) (by omega) (hfe e (by omega)) ?_
    refine J_astore_5 dX6_info_27 (Nat.le_of_ble_eq_true rfl) rfl ?_
    refine J_iload_3 dX6_info_29 ?_
    refine J_tabN (tgt := 76) dX6_info_30 (by decide) (by decide) rfl (by decide) ?_
    refine J_aload_5 dX6_info_76 ?_
    refine J_get dX6_info_78 fl_X6_125 hE1 rfl ?_
    exact J_iret dX6_info_81 rfl (⟨rfl, rfl⟩)
  · refine J_aload_0 dX6_info_0 ?_
    refine J_iload_1 dX6_info_1 ?_
    refine J_iload_2 dX6_info_2 ?_
    refine J_cV2i dX6_info_3 jmX6_isEdit mv_X6_80 h0 rfl (Nat.le_of_ble_eq_true rfl) (by decide) (c_isEditT p hl he) ?_
    refine J_if_ne (tgt := 12) dX6_info_6 (by decide) (fun _ => ?_) (fun c => absurd c (by decide))
    refine J_aload_0 dX6_info_12 ?_
    refine J_get dX6_info_13 fl_X6_11 h0 rfl ?_
    refine J_iload_1 dX6_info_16 ?_
    refine J_aald dX6_info_17 hfc ⟨_, rfl⟩ rfl (by omega) (by omega) (hfc0 l hl) ?_
    refine J_astore_4 dX6_info_18 (Nat.le_of_ble_eq_true rfl) rfl ?_
    refine J_aload_4 dX6_info_20 ?_
    refine J_get dX6_info_22 fl_X6_86 hc rfl ?_
    refine J_iload_2 dX6_info_25 ?_
    refine J_aald dX6_info_26 hf ⟨_, rfl⟩ rfl (by omega) (by omega) (hfe e (by omega)) ?_
    refine J_astore_5 dX6_info_27 (Nat.le_of_ble_eq_true rfl) rfl ?_
    refine J_iload_3 dX6_info_29 ?_
    refine J_tabN (tgt := 82) dX6_info_30 (by decide) (by decide) rfl (by decide) ?_
    refine J_aload_5 dX6_info_82 ?_
    refine J_get dX6_info_84 fl_X6_128 hE1 rfl ?_
    exact J_iret dX6_info_87 rfl (⟨rfl, rfl⟩)
  · refine J_aload_0 dX6_info_0 ?_
    refine J_iload_1 dX6_info_1 ?_
    refine J_iload_2 dX6_info_2 ?_
    refine J_cV2i dX6_info_3 jmX6_isEdit mv_X6_80 h0 rfl (Nat.le_of_ble_eq_true rfl) (by decide) (c_isEditT p hl he) ?_
    refine J_if_ne (tgt := 12) dX6_info_6 (by decide) (fun _ => ?_) (fun c => absurd c (by decide))
    refine J_aload_0 dX6_info_12 ?_
    refine J_get dX6_info_13 fl_X6_11 h0 rfl ?_
    refine J_iload_1 dX6_info_16 ?_
    refine J_aald dX6_info_17 hfc ⟨_, rfl⟩ rfl (by omega) (by omega) (hfc0 l hl) ?_
    refine J_astore_4 dX6_info_18 (Nat.le_of_ble_eq_true rfl) rfl ?_
    refine J_aload_4 dX6_info_20 ?_
    refine J_get dX6_info_22 fl_X6_86 hc rfl ?_
    refine J_iload_2 dX6_info_25 ?_
    refine J_aald dX6_info_26 hf ⟨_, rfl⟩ rfl (by omega) (by omega) (hfe e (by omega)) ?_
    refine J_astore_5 dX6_info_27 (Nat.le_of_ble_eq_true rfl) rfl ?_
    refine J_iload_3 dX6_info_29 ?_
    refine J_tabN (tgt := 88) dX6_info_30 (by decide) (by decide) rfl (by decide) ?_
    refine J_aload_5 dX6_info_88 ?_
    refine J_get dX6_info_90 fl_X6_131 hE1 rfl ?_
    exact J_iret dX6_info_93 rfl (⟨rfl, rfl⟩)
  · refine J_aload_0 dX6_info_0 ?_
    refine J_iload_1 dX6_info_1 ?_
    refine J_iload_2 dX6_info_2 ?_
    refine J_cV2i dX6_info_3 jmX6_isEdit mv_X6_80 h0 rfl (Nat.le_of_ble_eq_true rfl) (by decide) (c_isEditT p hl he) ?_
    refine J_if_ne (tgt := 12) dX6_info_6 (by decide) (fun _ => ?_) (fun c => absurd c (by decide))
    refine J_aload_0 dX6_info_12 ?_
    refine J_get dX6_info_13 fl_X6_11 h0 rfl ?_
    refine J_iload_1 dX6_info_16 ?_
    refine J_aald dX6_info_17 hfc ⟨_, rfl⟩ rfl (by omega) (by omega) (hfc0 l hl) ?_
    refine J_astore_4 dX6_info_18 (Nat.le_of_ble_eq_true rfl) rfl ?_
    refine J_aload_4 dX6_info_20 ?_
    refine J_get dX6_info_22 fl_X6_86 hc rfl ?_
    refine J_iload_2 dX6_info_25 ?_
    refine J_aald dX6_info_26 hf ⟨_, rfl⟩ rfl (by omega) (by omega) (hfe e (by omega)) ?_
    refine J_astore_5 dX6_info_27 (Nat.le_of_ble_eq_true rfl) rfl ?_
    refine J_iload_3 dX6_info_29 ?_
    refine J_tabN (tgt := 94) dX6_info_30 (by decide) (by decide) rfl (by decide) ?_
    refine J_aload_5 dX6_info_94 ?_
    refine J_get dX6_info_96 fl_X6_134 hE1 rfl ?_
    exact J_iret dX6_info_99 rfl (⟨rfl, rfl⟩)
  · refine J_aload_0 dX6_info_0 ?_
    refine J_iload_1 dX6_info_1 ?_
    refine J_iload_2 dX6_info_2 ?_
    refine J_cV2i dX6_info_3 jmX6_isEdit mv_X6_80 h0 rfl (Nat.le_of_ble_eq_true rfl) (by decide) (c_isEditT p hl he) ?_
    refine J_if_ne (tgt := 12) dX6_info_6 (by decide) (fun _ => ?_) (fun c => absurd c (by decide))
    refine J_aload_0 dX6_info_12 ?_
    refine J_get dX6_info_13 fl_X6_11 h0 rfl ?_
    refine J_iload_1 dX6_info_16 ?_
    refine J_aald dX6_info_17 hfc ⟨_, rfl⟩ rfl (by omega) (by omega) (hfc0 l hl) ?_
    refine J_astore_4 dX6_info_18 (Nat.le_of_ble_eq_true rfl) rfl ?_
    refine J_aload_4 dX6_info_20 ?_
    refine J_get dX6_info_22 fl_X6_86 hc rfl ?_
    refine J_iload_2 dX6_info_25 ?_
    refine J_aald dX6_info_26 hf ⟨_, rfl⟩ rfl (by omega) (by omega) (hfe e (by omega)) ?_
    refine J_astore_5 dX6_info_27 (Nat.le_of_ble_eq_true rfl) rfl ?_
    refine J_iload_3 dX6_info_29 ?_
    refine J_tabN (tgt := 100) dX6_info_30 (by decide) (by decide) rfl (by decide) ?_
    refine J_aload_5 dX6_info_100 ?_
    refine J_get dX6_info_102 fl_X6_137 hE1 rfl ?_
    exact J_iret dX6_info_105 rfl (⟨rfl, rfl⟩)
  · refine J_aload_0 dX6_info_0 ?_
    refine J_iload_1 dX6_info_1 ?_
    refine J_iload_2 dX6_info_2 ?_
    refine J_cV2i dX6_info_3 jmX6_isEdit mv_X6_80 h0 rfl (Nat.le_of_ble_eq_true rfl) (by decide) (c_isEditT p hl he) ?_
    refine J_if_ne (tgt := 12) dX6_info_6 (by decide) (fun _ => ?_) (fun c => absurd c (by decide))
    refine J_aload_0 dX6_info_12 ?_
    refine J_get dX6_info_13 fl_X6_11 h0 rfl ?_
    refine J_iload_1 dX6_info_16 ?_
    refine J_aald dX6_info_17 hfc ⟨_, rfl⟩ rfl (by omega) (by omega) (hfc0 l hl) ?_
    refine J_astore_4 dX6_info_18 (Nat.le_of_ble_eq_true rfl) rfl ?_
    refine J_aload_4 dX6_info_20 ?_
    refine J_get dX6_info_22 fl_X6_86 hc rfl ?_
    refine J_iload_2 dX6_info_25 ?_
    refine J_aald dX6_info_26 hf ⟨_, rfl⟩ rfl (by omega) (by omega) (hfe e (by omega)) ?_
    refine J_astore_5 dX6_info_27 (Nat.le_of_ble_eq_true rfl) rfl ?_
    refine J_iload_3 dX6_info_29 ?_
    refine J_tabN (tgt := 106) dX6_info_30 (by decide) (by decide) rfl (by decide) ?_
    refine J_aload_4 dX6_info_106 ?_
    refine J_iload_2 dX6_info_108 ?_
    refine J_cV1i dX6_info_109 jmX1_begin mv_X6_140 hc rfl (Nat.le_of_ble_eq_true rfl) (by decide) (hbg) ?_
    exact J_iret dX6_info_112 rfl (⟨rfl, rfl⟩)
  · refine J_aload_0 dX6_info_0 ?_
    refine J_iload_1 dX6_info_1 ?_
    refine J_iload_2 dX6_info_2 ?_
    refine J_cV2i dX6_info_3 jmX6_isEdit mv_X6_80 h0 rfl (Nat.le_of_ble_eq_true rfl) (by decide) (c_isEditT p hl he) ?_
    refine J_if_ne (tgt := 12) dX6_info_6 (by decide) (fun _ => ?_) (fun c => absurd c (by decide))
    refine J_aload_0 dX6_info_12 ?_
    refine J_get dX6_info_13 fl_X6_11 h0 rfl ?_
    refine J_iload_1 dX6_info_16 ?_
    refine J_aald dX6_info_17 hfc ⟨_, rfl⟩ rfl (by omega) (by omega) (hfc0 l hl) ?_
    refine J_astore_4 dX6_info_18 (Nat.le_of_ble_eq_true rfl) rfl ?_
    refine J_aload_4 dX6_info_20 ?_
    refine J_get dX6_info_22 fl_X6_86 hc rfl ?_
    refine J_iload_2 dX6_info_25 ?_
    refine J_aald dX6_info_26 hf ⟨_, rfl⟩ rfl (by omega) (by omega) (hfe e (by omega)) ?_
    refine J_astore_5 dX6_info_27 (Nat.le_of_ble_eq_true rfl) rfl ?_
    refine J_iload_3 dX6_info_29 ?_
    refine J_tabN (tgt := 113) dX6_info_30 (by decide) (by decide) rfl (by decide) ?_
    refine J_aload_5 dX6_info_113 ?_
    refine J_cV0i dX6_info_115 jmX2_first mv_X6_143 hE1 rfl (Nat.le_of_ble_eq_true rfl) (by decide) (c_first hEe) ?_
    exact J_iret dX6_info_118 rfl (⟨rfl, rfl⟩)
  · refine J_aload_0 dX6_info_0 ?_
    refine J_iload_1 dX6_info_1 ?_
    refine J_iload_2 dX6_info_2 ?_
    refine J_cV2i dX6_info_3 jmX6_isEdit mv_X6_80 h0 rfl (Nat.le_of_ble_eq_true rfl) (by decide) (c_isEditT p hl he) ?_
    refine J_if_ne (tgt := 12) dX6_info_6 (by decide) (fun _ => ?_) (fun c => absurd c (by decide))
    refine J_aload_0 dX6_info_12 ?_
    refine J_get dX6_info_13 fl_X6_11 h0 rfl ?_
    refine J_iload_1 dX6_info_16 ?_
    refine J_aald dX6_info_17 hfc ⟨_, rfl⟩ rfl (by omega) (by omega) (hfc0 l hl) ?_
    refine J_astore_4 dX6_info_18 (Nat.le_of_ble_eq_true rfl) rfl ?_
    refine J_aload_4 dX6_info_20 ?_
    refine J_get dX6_info_22 fl_X6_86 hc rfl ?_
    refine J_iload_2 dX6_info_25 ?_
    refine J_aald dX6_info_26 hf ⟨_, rfl⟩ rfl (by omega) (by omega) (hfe e (by omega)) ?_
    refine J_astore_5 dX6_info_27 (Nat.le_of_ble_eq_true rfl) rfl ?_
    refine J_iload_3 dX6_info_29 ?_
    refine J_tabN (tgt := 119) dX6_info_30 (by decide) (by decide) rfl (by decide) ?_
    refine J_aload_5 dX6_info_119 ?_
    refine J_cV0i dX6_info_121 jmX2_last mv_X6_147 hE1 rfl (Nat.le_of_ble_eq_true rfl) (by decide) (c_last hEe) ?_
    exact J_iret dX6_info_124 rfl (⟨rfl, rfl⟩)
theorem c_lengthOf (p : dkAt h D ca xs) {r : Nat} (hr : r < 6) : CtI X mX6_lengthOf 1 [.ref 0, .int (nI r)] h (nI (dl D r)) := by
  obtain ⟨h0, -, -, -, ⟨fl, hfl, hfl0⟩, hrest⟩ := id p
  rw [← hfl0 r hr]
  refine Ct_of jmX6_lengthOf [some (.ref 0), some (.int (nI r))] (Nat.le_of_ble_eq_true rfl) rfl ?_
  show J X RX6 cX6_lengthOf 2 _ (some .int) _ 0 _ _ _
  refine J_iload_1 dX6_lengthOf_0 ?_
  refine J_bipush (v := nI 6) dX6_lengthOf_1 (by decide) ?_
  refine J_cS2i dX6_lengthOf_3 jmX6_isBelow ms_X6_60 (Nat.le_of_ble_eq_true rfl) (by decide) (c_below hr (by decide)) ?_
  refine J_if_eq (tgt := 18) dX6_lengthOf_6 (by decide) (fun c => absurd c (by decide)) (fun _ => ?_)
  refine J_aload_0 dX6_lengthOf_9 ?_
  refine J_get dX6_lengthOf_10 fl_X6_15 h0 rfl ?_
  refine J_iload_1 dX6_lengthOf_13 ?_
  refine J_iald dX6_lengthOf_14 hfl rfl (by omega) (by omega) ?_
  refine J_goto (tgt := 19) dX6_lengthOf_15 (by decide) ?_
  exact J_iret dX6_lengthOf_19 rfl (⟨rfl, rfl⟩)
theorem c_shows_bad {l f w : Int32} (hb : ¬ ((∃ j, j < 2 ∧ l = nI j) ∧ (∃ k, k < 4000 ∧ f = nI k) ∧ ∃ u, u < 4 ∧ w = nI u)) : CtI X mX6_shows 2 [.ref 0, .int l, .int f, .int w] h (-2) := by
  refine Ct_of jmX6_shows [some (.ref 0), some (.int l), some (.int f), some (.int w), none, none, none, none] (Nat.le_of_ble_eq_true rfl) rfl ?_
  show J X RX6 cX6_shows 8 _ (some .int) _ 0 _ _ _
  rcases ix_cases l 2 (by decide) with ⟨j, hj, rfl⟩ | hl
  · rcases ix_cases f 4000 (by decide) with ⟨k, hk, rfl⟩ | hf
    · rcases ix_cases w 4 (by decide) with ⟨u, hu, rfl⟩ | hw
      · exact absurd ⟨⟨j, hj, rfl⟩, ⟨k, hk, rfl⟩, u, hu, rfl⟩ hb
      · refine J_iload_1 dX6_shows_0 ?_
        refine J_iconst (v := nI 2) dX6_shows_1 (by decide) ?_
        refine J_cS2i dX6_shows_2 jmX6_isBelow ms_X6_60 (Nat.le_of_ble_eq_true rfl) (by decide) (c_below hj (by decide)) ?_
        refine J_if_eq (tgt := 26) dX6_shows_5 (by decide) (fun c => absurd c (by decide)) (fun _ => ?_)
        refine J_iload_2 dX6_shows_8 ?_
        refine J_sipush (v := nI 4000) dX6_shows_9 (by decide) ?_
        refine J_cS2i dX6_shows_12 jmX6_isBelow ms_X6_60 (Nat.le_of_ble_eq_true rfl) (by decide) (c_below hk (by decide)) ?_
        refine J_if_eq (tgt := 26) dX6_shows_15 (by decide) (fun c => absurd c (by decide)) (fun _ => ?_)
        refine J_iload_3 dX6_shows_18 ?_
        refine J_iconst (v := nI 4) dX6_shows_19 (by decide) ?_
        refine J_cS2i dX6_shows_20 jmX6_isBelow ms_X6_60 (Nat.le_of_ble_eq_true rfl) (by decide) (c_nbelow hw) ?_
        refine J_if_ne (tgt := 29) dX6_shows_23 (by decide) (fun c => absurd c (by decide)) (fun _ => ?_)
        refine J_bipush (v := -2) dX6_shows_26 (by decide) ?_
        exact J_iret dX6_shows_28 rfl (⟨rfl, rfl⟩)
    · refine J_iload_1 dX6_shows_0 ?_
      refine J_iconst (v := nI 2) dX6_shows_1 (by decide) ?_
      refine J_cS2i dX6_shows_2 jmX6_isBelow ms_X6_60 (Nat.le_of_ble_eq_true rfl) (by decide) (c_below hj (by decide)) ?_
      refine J_if_eq (tgt := 26) dX6_shows_5 (by decide) (fun c => absurd c (by decide)) (fun _ => ?_)
      refine J_iload_2 dX6_shows_8 ?_
      refine J_sipush (v := nI 4000) dX6_shows_9 (by decide) ?_
      refine J_cS2i dX6_shows_12 jmX6_isBelow ms_X6_60 (Nat.le_of_ble_eq_true rfl) (by decide) (c_nbelow hf) ?_
      refine J_if_eq (tgt := 26) dX6_shows_15 (by decide) (fun _ => ?_) (fun c => absurd (by decide) c)
      refine J_bipush (v := -2) dX6_shows_26 (by decide) ?_
      exact J_iret dX6_shows_28 rfl (⟨rfl, rfl⟩)
  · refine J_iload_1 dX6_shows_0 ?_
    refine J_iconst (v := nI 2) dX6_shows_1 (by decide) ?_
    refine J_cS2i dX6_shows_2 jmX6_isBelow ms_X6_60 (Nat.le_of_ble_eq_true rfl) (by decide) (c_nbelow hl) ?_
    refine J_if_eq (tgt := 26) dX6_shows_5 (by decide) (fun _ => ?_) (fun c => absurd (by decide) c)
    refine J_bipush (v := -2) dX6_shows_26 (by decide) ?_
    exact J_iret dX6_shows_28 rfl (⟨rfl, rfl⟩)
theorem c_shows_ok (p : dkAt h D ca xs) {l f w : Nat} (hl : l < 2) (hf : f < 4000) (hw : w < 4) : CtI X mX6_shows 2 [.ref 0, .int (nI l), .int (nI f), .int (nI w)] h (sShows D l f w) := by
  obtain ⟨h0, ⟨fc, hfc, hfc0⟩, hca, hcut, hrest⟩ := id p
  have hC := hcut l hl
  obtain ⟨hc, ⟨g, hg, hfe⟩, hE, hn8⟩ := id hC
  have hag := hrest.2.2.2.2.2.2.2.2.1
  have hh := c_holder (X := X) hC hf
  rw [hold_congr _ 0 (fun j hj => hag l j hl (by omega))] at hh
  have hdl := hrest.2.2.2.2.2.2.2.2.2.2.2.2.1
  refine Ct_of jmX6_shows [some (.ref 0), some (.int (nI l)), some (.int (nI f)), some (.int (nI w)), none, none, none, none] (Nat.le_of_ble_eq_true rfl) rfl ?_
  show J X RX6 cX6_shows 8 _ (some .int) _ 0 _ _ _
  cases hq : hold (de D l) f 0 (dn D l) with
  | none =>
    rw [hq] at hh
    rw [show sShows D l f w = -1 from by unfold sShows; rw [hq]]
    refine J_iload_1 dX6_shows_0 ?_
    refine J_iconst (v := nI 2) dX6_shows_1 (by decide) ?_
    refine J_cS2i dX6_shows_2 jmX6_isBelow ms_X6_60 (Nat.le_of_ble_eq_true rfl) (by decide) (c_below hl (by decide)) ?_
    refine J_if_eq (tgt := 26) dX6_shows_5 (by decide) (fun c => absurd c (by decide)) (fun _ => ?_)
    refine J_iload_2 dX6_shows_8 ?_
    refine J_sipush (v := nI 4000) dX6_shows_9 (by decide) ?_
    refine J_cS2i dX6_shows_12 jmX6_isBelow ms_X6_60 (Nat.le_of_ble_eq_true rfl) (by decide) (c_below hf (by decide)) ?_
    refine J_if_eq (tgt := 26) dX6_shows_15 (by decide) (fun c => absurd c (by decide)) (fun _ => ?_)
    refine J_iload_3 dX6_shows_18 ?_
    refine J_iconst (v := nI 4) dX6_shows_19 (by decide) ?_
    refine J_cS2i dX6_shows_20 jmX6_isBelow ms_X6_60 (Nat.le_of_ble_eq_true rfl) (by decide) (c_below hw (by decide)) ?_
    refine J_if_ne (tgt := 29) dX6_shows_23 (by decide) (fun _ => ?_) (fun c => absurd c (by decide))
    refine J_aload_0 dX6_shows_29 ?_
    refine J_get dX6_shows_30 fl_X6_11 h0 rfl ?_
    refine J_iload_1 dX6_shows_33 ?_
    refine J_aald dX6_shows_34 hfc ⟨_, rfl⟩ rfl (by omega) (by omega) (hfc0 l hl) ?_
    refine J_astore_4 dX6_shows_35 (Nat.le_of_ble_eq_true rfl) rfl ?_
    refine J_aload_4 dX6_shows_37 ?_
    refine J_iload_2 dX6_shows_39 ?_
    refine J_cV1i dX6_shows_40 jmX1_holder mv_X6_150 hc rfl (Nat.le_of_ble_eq_true rfl) (by decide) (hh) ?_
    refine J_istore_5 dX6_shows_43 (Nat.le_of_ble_eq_true rfl) rfl ?_
    refine J_iload_5 dX6_shows_45 ?_
    refine J_aload_4 dX6_shows_47 ?_
    refine J_get dX6_shows_49 fl_X6_76 hc rfl ?_
    refine J_cS2i dX6_shows_52 jmX6_isBelow ms_X6_60 (Nat.le_of_ble_eq_true rfl) (by decide) (c_nbelow (v := -1) (fun z => absurd z.1 (by decide))) ?_
    refine J_if_ne (tgt := 60) dX6_shows_55 (by decide) (fun c => absurd c (by decide)) (fun _ => ?_)
    refine J_iconst (v := -1) dX6_shows_58 (by decide) ?_
    exact J_iret dX6_shows_59 rfl (⟨rfl, rfl⟩)
  | some e =>
    rw [hq] at hh
    obtain ⟨q1, q2, q3⟩ := hold_lt _ _ _ hq
    have q4 := hold_ge _ _ _ (Nat.zero_le _) hq
    have hEe := hE e (by omega)
    rw [hag l e hl (by omega)] at hEe
    have hE1 := hEe.1
    have oE := hEe.2
    have hbg := c_begin (X := X) hC (m := e) (by omega)
    rw [bg_congr (fun j hj => hag l j hl (by omega))] at hbg
    have hfr := fr_le oE (k := f - bg (de D l) e) (by omega)
    have hdr := hdl (de D l e 0) oE.1
    have es : sShows D l f w = if w = 0 then nI e else if w = 1 then nI (de D l e 0) else if w = 2 then nI (fr (de D l e) (f - bg (de D l) e)) else if fr (de D l e) (f - bg (de D l) e) < dl D (de D l e 0) then 0 else 1 := by unfold sShows; rw [hq]
    rcases (show w = 0 ∨ w = 1 ∨ w = 2 ∨ w = 3 by omega) with rfl | rfl | rfl | rfl
    · refine J_iload_1 dX6_shows_0 ?_
      refine J_iconst (v := nI 2) dX6_shows_1 (by decide) ?_
      refine J_cS2i dX6_shows_2 jmX6_isBelow ms_X6_60 (Nat.le_of_ble_eq_true rfl) (by decide) (c_below hl (by decide)) ?_
      refine J_if_eq (tgt := 26) dX6_shows_5 (by decide) (fun c => absurd c (by decide)) (fun _ => ?_)
      refine J_iload_2 dX6_shows_8 ?_
      refine J_sipush (v := nI 4000) dX6_shows_9 (by decide) ?_
      refine J_cS2i dX6_shows_12 jmX6_isBelow ms_X6_60 (Nat.le_of_ble_eq_true rfl) (by decide) (c_below hf (by decide)) ?_
      refine J_if_eq (tgt := 26) dX6_shows_15 (by decide) (fun c => absurd c (by decide)) (fun _ => ?_)
      refine J_iload_3 dX6_shows_18 ?_
      refine J_iconst (v := nI 4) dX6_shows_19 (by decide) ?_
      refine J_cS2i dX6_shows_20 jmX6_isBelow ms_X6_60 (Nat.le_of_ble_eq_true rfl) (by decide) (c_below hw (by decide)) ?_
      refine J_if_ne (tgt := 29) dX6_shows_23 (by decide) (fun _ => ?_) (fun c => absurd c (by decide))
      refine J_aload_0 dX6_shows_29 ?_
      refine J_get dX6_shows_30 fl_X6_11 h0 rfl ?_
      refine J_iload_1 dX6_shows_33 ?_
      refine J_aald dX6_shows_34 hfc ⟨_, rfl⟩ rfl (by omega) (by omega) (hfc0 l hl) ?_
      refine J_astore_4 dX6_shows_35 (Nat.le_of_ble_eq_true rfl) rfl ?_
      refine J_aload_4 dX6_shows_37 ?_
      refine J_iload_2 dX6_shows_39 ?_
      refine J_cV1i dX6_shows_40 jmX1_holder mv_X6_150 hc rfl (Nat.le_of_ble_eq_true rfl) (by decide) (hh) ?_
      refine J_topi (b := nI e) (rfl) ?_
      refine J_istore_5 dX6_shows_43 (Nat.le_of_ble_eq_true rfl) rfl ?_
      refine J_iload_5 dX6_shows_45 ?_
      refine J_aload_4 dX6_shows_47 ?_
      refine J_get dX6_shows_49 fl_X6_76 hc rfl ?_
      refine J_cS2i dX6_shows_52 jmX6_isBelow ms_X6_60 (Nat.le_of_ble_eq_true rfl) (by decide) (c_below (j := e) (by omega) (by omega)) ?_
      refine J_if_ne (tgt := 60) dX6_shows_55 (by decide) (fun _ => ?_) (fun c => absurd c (by decide))
      refine J_aload_4 dX6_shows_60 ?_
      refine J_get dX6_shows_62 fl_X6_86 hc rfl ?_
      refine J_iload_5 dX6_shows_65 ?_
      refine J_aald dX6_shows_67 hg ⟨_, rfl⟩ rfl (by omega) (by omega) (hfe e (by omega)) ?_
      refine J_astore_6 dX6_shows_68 (Nat.le_of_ble_eq_true rfl) rfl ?_
      refine J_aload_6 dX6_shows_70 ?_
      refine J_iload_2 dX6_shows_72 ?_
      refine J_aload_4 dX6_shows_73 ?_
      refine J_iload_5 dX6_shows_75 ?_
      refine J_cV1i dX6_shows_77 jmX1_begin mv_X6_140 hc rfl (Nat.le_of_ble_eq_true rfl) (by decide) (hbg) ?_
      first | refine J_isubN dX6_shows_80 (by omega) ?_ | refine J_isub dX6_shows_80 ?_
      refine J_cV1i dX6_shows_81 jmX2_frameAt mv_X6_153 hE1 rfl (Nat.le_of_ble_eq_true rfl) (by decide) (c_frameAt hEe (by omega)) ?_
      refine J_istore_7 dX6_shows_84 (Nat.le_of_ble_eq_true rfl) rfl ?_
      refine J_iload_3 dX6_shows_86 ?_
      refine J_tabN (tgt := 112) dX6_shows_87 (by decide) (by decide) rfl (by decide) ?_
      refine J_iload_5 dX6_shows_112 ?_
      exact J_iret dX6_shows_114 rfl (⟨by rw [es]; rfl, rfl⟩)
    · refine J_iload_1 dX6_shows_0 ?_
      refine J_iconst (v := nI 2) dX6_shows_1 (by decide) ?_
      refine J_cS2i dX6_shows_2 jmX6_isBelow ms_X6_60 (Nat.le_of_ble_eq_true rfl) (by decide) (c_below hl (by decide)) ?_
      refine J_if_eq (tgt := 26) dX6_shows_5 (by decide) (fun c => absurd c (by decide)) (fun _ => ?_)
      refine J_iload_2 dX6_shows_8 ?_
      refine J_sipush (v := nI 4000) dX6_shows_9 (by decide) ?_
      refine J_cS2i dX6_shows_12 jmX6_isBelow ms_X6_60 (Nat.le_of_ble_eq_true rfl) (by decide) (c_below hf (by decide)) ?_
      refine J_if_eq (tgt := 26) dX6_shows_15 (by decide) (fun c => absurd c (by decide)) (fun _ => ?_)
      refine J_iload_3 dX6_shows_18 ?_
      refine J_iconst (v := nI 4) dX6_shows_19 (by decide) ?_
      refine J_cS2i dX6_shows_20 jmX6_isBelow ms_X6_60 (Nat.le_of_ble_eq_true rfl) (by decide) (c_below hw (by decide)) ?_
      refine J_if_ne (tgt := 29) dX6_shows_23 (by decide) (fun _ => ?_) (fun c => absurd c (by decide))
      refine J_aload_0 dX6_shows_29 ?_
      refine J_get dX6_shows_30 fl_X6_11 h0 rfl ?_
      refine J_iload_1 dX6_shows_33 ?_
      refine J_aald dX6_shows_34 hfc ⟨_, rfl⟩ rfl (by omega) (by omega) (hfc0 l hl) ?_
      refine J_astore_4 dX6_shows_35 (Nat.le_of_ble_eq_true rfl) rfl ?_
      refine J_aload_4 dX6_shows_37 ?_
      refine J_iload_2 dX6_shows_39 ?_
      refine J_cV1i dX6_shows_40 jmX1_holder mv_X6_150 hc rfl (Nat.le_of_ble_eq_true rfl) (by decide) (hh) ?_
      refine J_topi (b := nI e) (rfl) ?_
      refine J_istore_5 dX6_shows_43 (Nat.le_of_ble_eq_true rfl) rfl ?_
      refine J_iload_5 dX6_shows_45 ?_
      refine J_aload_4 dX6_shows_47 ?_
      refine J_get dX6_shows_49 fl_X6_76 hc rfl ?_
      refine J_cS2i dX6_shows_52 jmX6_isBelow ms_X6_60 (Nat.le_of_ble_eq_true rfl) (by decide) (c_below (j := e) (by omega) (by omega)) ?_
      refine J_if_ne (tgt := 60) dX6_shows_55 (by decide) (fun _ => ?_) (fun c => absurd c (by decide))
      refine J_aload_4 dX6_shows_60 ?_
      refine J_get dX6_shows_62 fl_X6_86 hc rfl ?_
      refine J_iload_5 dX6_shows_65 ?_
      refine J_aald dX6_shows_67 hg ⟨_, rfl⟩ rfl (by omega) (by omega) (hfe e (by omega)) ?_
      refine J_astore_6 dX6_shows_68 (Nat.le_of_ble_eq_true rfl) rfl ?_
      refine J_aload_6 dX6_shows_70 ?_
      refine J_iload_2 dX6_shows_72 ?_
      refine J_aload_4 dX6_shows_73 ?_
      refine J_iload_5 dX6_shows_75 ?_
      refine J_cV1i dX6_shows_77 jmX1_begin mv_X6_140 hc rfl (Nat.le_of_ble_eq_true rfl) (by decide) (hbg) ?_
      first | refine J_isubN dX6_shows_80 (by omega) ?_ | refine J_isub dX6_shows_80 ?_
      refine J_cV1i dX6_shows_81 jmX2_frameAt mv_X6_153 hE1 rfl (Nat.le_of_ble_eq_true rfl) (by decide) (c_frameAt hEe (by omega)) ?_
      refine J_istore_7 dX6_shows_84 (Nat.le_of_ble_eq_true rfl) rfl ?_
      refine J_iload_3 dX6_shows_86 ?_
      refine J_tabN (tgt := 115) dX6_shows_87 (by decide) (by decide) rfl (by decide) ?_
      refine J_aload_6 dX6_shows_115 ?_
      refine J_get dX6_shows_117 fl_X6_125 hE1 rfl ?_
      exact J_iret dX6_shows_120 rfl (⟨by rw [es]; rfl, rfl⟩)
    · refine J_iload_1 dX6_shows_0 ?_
      refine J_iconst (v := nI 2) dX6_shows_1 (by decide) ?_
      refine J_cS2i dX6_shows_2 jmX6_isBelow ms_X6_60 (Nat.le_of_ble_eq_true rfl) (by decide) (c_below hl (by decide)) ?_
      refine J_if_eq (tgt := 26) dX6_shows_5 (by decide) (fun c => absurd c (by decide)) (fun _ => ?_)
      refine J_iload_2 dX6_shows_8 ?_
      refine J_sipush (v := nI 4000) dX6_shows_9 (by decide) ?_
      refine J_cS2i dX6_shows_12 jmX6_isBelow ms_X6_60 (Nat.le_of_ble_eq_true rfl) (by decide) (c_below hf (by decide)) ?_
      refine J_if_eq (tgt := 26) dX6_shows_15 (by decide) (fun c => absurd c (by decide)) (fun _ => ?_)
      refine J_iload_3 dX6_shows_18 ?_
      refine J_iconst (v := nI 4) dX6_shows_19 (by decide) ?_
      refine J_cS2i dX6_shows_20 jmX6_isBelow ms_X6_60 (Nat.le_of_ble_eq_true rfl) (by decide) (c_below hw (by decide)) ?_
      refine J_if_ne (tgt := 29) dX6_shows_23 (by decide) (fun _ => ?_) (fun c => absurd c (by decide))
      refine J_aload_0 dX6_shows_29 ?_
      refine J_get dX6_shows_30 fl_X6_11 h0 rfl ?_
      refine J_iload_1 dX6_shows_33 ?_
      refine J_aald dX6_shows_34 hfc ⟨_, rfl⟩ rfl (by omega) (by omega) (hfc0 l hl) ?_
      refine J_astore_4 dX6_shows_35 (Nat.le_of_ble_eq_true rfl) rfl ?_
      refine J_aload_4 dX6_shows_37 ?_
      refine J_iload_2 dX6_shows_39 ?_
      refine J_cV1i dX6_shows_40 jmX1_holder mv_X6_150 hc rfl (Nat.le_of_ble_eq_true rfl) (by decide) (hh) ?_
      refine J_topi (b := nI e) (rfl) ?_
      refine J_istore_5 dX6_shows_43 (Nat.le_of_ble_eq_true rfl) rfl ?_
      refine J_iload_5 dX6_shows_45 ?_
      refine J_aload_4 dX6_shows_47 ?_
      refine J_get dX6_shows_49 fl_X6_76 hc rfl ?_
      refine J_cS2i dX6_shows_52 jmX6_isBelow ms_X6_60 (Nat.le_of_ble_eq_true rfl) (by decide) (c_below (j := e) (by omega) (by omega)) ?_
      refine J_if_ne (tgt := 60) dX6_shows_55 (by decide) (fun _ => ?_) (fun c => absurd c (by decide))
      refine J_aload_4 dX6_shows_60 ?_
      refine J_get dX6_shows_62 fl_X6_86 hc rfl ?_
      refine J_iload_5 dX6_shows_65 ?_
      refine J_aald dX6_shows_67 hg ⟨_, rfl⟩ rfl (by omega) (by omega) (hfe e (by omega)) ?_
      refine J_astore_6 dX6_shows_68 (Nat.le_of_ble_eq_true rfl) rfl ?_
      refine J_aload_6 dX6_shows_70 ?_
      refine J_iload_2 dX6_shows_72 ?_
      refine J_aload_4 dX6_shows_73 ?_
      refine J_iload_5 dX6_shows_75 ?_
      refine J_cV1i dX6_shows_77 jmX1_begin mv_X6_140 hc rfl (Nat.le_of_ble_eq_true rfl) (by decide) (hbg) ?_
      first | refine J_isubN dX6_shows_80 (by omega) ?_ | refine J_isub dX6_shows_80 ?_
      refine J_cV1i dX6_shows_81 jmX2_frameAt mv_X6_153 hE1 rfl (Nat.le_of_ble_eq_true rfl) (by decide) (c_frameAt hEe (by omega)) ?_
      refine J_istore_7 dX6_shows_84 (Nat.le_of_ble_eq_true rfl) rfl ?_
      refine J_iload_3 dX6_shows_86 ?_
      refine J_tabN (tgt := 121) dX6_shows_87 (by decide) (by decide) rfl (by decide) ?_
      refine J_iload_7 dX6_shows_121 ?_
      exact J_iret dX6_shows_123 rfl (⟨by rw [es]; rfl, rfl⟩)
    · refine J_iload_1 dX6_shows_0 ?_
      refine J_iconst (v := nI 2) dX6_shows_1 (by decide) ?_
      refine J_cS2i dX6_shows_2 jmX6_isBelow ms_X6_60 (Nat.le_of_ble_eq_true rfl) (by decide) (c_below hl (by decide)) ?_
      refine J_if_eq (tgt := 26) dX6_shows_5 (by decide) (fun c => absurd c (by decide)) (fun _ => ?_)
      refine J_iload_2 dX6_shows_8 ?_
      refine J_sipush (v := nI 4000) dX6_shows_9 (by decide) ?_
      refine J_cS2i dX6_shows_12 jmX6_isBelow ms_X6_60 (Nat.le_of_ble_eq_true rfl) (by decide) (c_below hf (by decide)) ?_
      refine J_if_eq (tgt := 26) dX6_shows_15 (by decide) (fun c => absurd c (by decide)) (fun _ => ?_)
      refine J_iload_3 dX6_shows_18 ?_
      refine J_iconst (v := nI 4) dX6_shows_19 (by decide) ?_
      refine J_cS2i dX6_shows_20 jmX6_isBelow ms_X6_60 (Nat.le_of_ble_eq_true rfl) (by decide) (c_below hw (by decide)) ?_
      refine J_if_ne (tgt := 29) dX6_shows_23 (by decide) (fun _ => ?_) (fun c => absurd c (by decide))
      refine J_aload_0 dX6_shows_29 ?_
      refine J_get dX6_shows_30 fl_X6_11 h0 rfl ?_
      refine J_iload_1 dX6_shows_33 ?_
      refine J_aald dX6_shows_34 hfc ⟨_, rfl⟩ rfl (by omega) (by omega) (hfc0 l hl) ?_
      refine J_astore_4 dX6_shows_35 (Nat.le_of_ble_eq_true rfl) rfl ?_
      refine J_aload_4 dX6_shows_37 ?_
      refine J_iload_2 dX6_shows_39 ?_
      refine J_cV1i dX6_shows_40 jmX1_holder mv_X6_150 hc rfl (Nat.le_of_ble_eq_true rfl) (by decide) (hh) ?_
      refine J_topi (b := nI e) (rfl) ?_
      refine J_istore_5 dX6_shows_43 (Nat.le_of_ble_eq_true rfl) rfl ?_
      refine J_iload_5 dX6_shows_45 ?_
      refine J_aload_4 dX6_shows_47 ?_
      refine J_get dX6_shows_49 fl_X6_76 hc rfl ?_
      refine J_cS2i dX6_shows_52 jmX6_isBelow ms_X6_60 (Nat.le_of_ble_eq_true rfl) (by decide) (c_below (j := e) (by omega) (by omega)) ?_
      refine J_if_ne (tgt := 60) dX6_shows_55 (by decide) (fun _ => ?_) (fun c => absurd c (by decide))
      refine J_aload_4 dX6_shows_60 ?_
      refine J_get dX6_shows_62 fl_X6_86 hc rfl ?_
      refine J_iload_5 dX6_shows_65 ?_
      refine J_aald dX6_shows_67 hg ⟨_, rfl⟩ rfl (by omega) (by omega) (hfe e (by omega)) ?_
      refine J_astore_6 dX6_shows_68 (Nat.le_of_ble_eq_true rfl) rfl ?_
      refine J_aload_6 dX6_shows_70 ?_
      refine J_iload_2 dX6_shows_72 ?_
      refine J_aload_4 dX6_shows_73 ?_
      refine J_iload_5 dX6_shows_75 ?_
      refine J_cV1i dX6_shows_77 jmX1_begin mv_X6_140 hc rfl (Nat.le_of_ble_eq_true rfl) (by decide) (hbg) ?_
      first | refine J_isubN dX6_shows_80 (by omega) ?_ | refine J_isub dX6_shows_80 ?_
      refine J_cV1i dX6_shows_81 jmX2_frameAt mv_X6_153 hE1 rfl (Nat.le_of_ble_eq_true rfl) (by decide) (c_frameAt hEe (by omega)) ?_
      refine J_istore_7 dX6_shows_84 (Nat.le_of_ble_eq_true rfl) rfl ?_
      refine J_iload_3 dX6_shows_86 ?_
      refine J_tabNo (tgt := 124) dX6_shows_87 (by decide) (by decide) (by decide) ?_
      refine J_iload_7 dX6_shows_124 ?_
      refine J_aload_0 dX6_shows_126 ?_
      refine J_aload_6 dX6_shows_127 ?_
      refine J_get dX6_shows_129 fl_X6_125 hE1 rfl ?_
      refine J_cV1i dX6_shows_132 jmX6_lengthOf mv_X6_156 h0 rfl (Nat.le_of_ble_eq_true rfl) (by decide) (c_lengthOf p oE.1) ?_
      first | refine J_icmp_geN (tgt := 142) dX6_shows_135 (by decide) (by omega) (by omega) (fun c135 => ?_) (fun c135 => ?_) | refine J_icmp_ge (tgt := 142) dX6_shows_135 (by decide) (fun c135 => ?_) (fun c135 => ?_)
      · refine J_iconst (v := nI 1) dX6_shows_142 (by decide) ?_
        exact J_iret dX6_shows_143 rfl (⟨by rw [es]; first | exact congrArg (fun z => some (Value.int z)) (if_pos c135).symm | exact congrArg (fun z => some (Value.int z)) (if_neg (Nat.not_lt.mpr c135)).symm, rfl⟩)
      · refine J_iconst (v := nI 0) dX6_shows_138 (by decide) ?_
        refine J_goto (tgt := 143) dX6_shows_139 (by decide) ?_
        exact J_iret dX6_shows_143 rfl (⟨by rw [es]; first | exact congrArg (fun z => some (Value.int z)) (if_pos c135).symm | exact congrArg (fun z => some (Value.int z)) (if_neg (Nat.not_lt.mpr c135)).symm, rfl⟩)
theorem c_seen_bad {l r f w : Int32} (hb : ¬ ((∃ j, j < 2 ∧ l = nI j) ∧ (∃ k, k < 6 ∧ r = nI k) ∧ (∃ k, k < 300000 ∧ f = nI k) ∧ ∃ u, u < 2 ∧ w = nI u)) : CtI X mX6_seen 3 [.ref 0, .int l, .int r, .int f, .int w] h (-2) := by
  refine Ct_of jmX6_seen [some (.ref 0), some (.int l), some (.int r), some (.int f), some (.int w)] (Nat.le_of_ble_eq_true rfl) rfl ?_
  show J X RX6 cX6_seen 5 _ (some .int) _ 0 _ _ _
  rcases ix_cases l 2 (by decide) with ⟨j, hj, rfl⟩ | hl
  · rcases ix_cases r 6 (by decide) with ⟨k, hk, rfl⟩ | hr
    · rcases ix_cases f 300000 (by decide) with ⟨k2, hk2, rfl⟩ | hf
      · rcases ix_cases w 2 (by decide) with ⟨u, hu, rfl⟩ | hw
        · exact absurd ⟨⟨j, hj, rfl⟩, ⟨k, hk, rfl⟩, ⟨k2, hk2, rfl⟩, u, hu, rfl⟩ hb
        · refine J_iload_1 dX6_seen_0 ?_
          refine J_iconst (v := nI 2) dX6_seen_1 (by decide) ?_
          refine J_cS2i dX6_seen_2 jmX6_isBelow ms_X6_60 (Nat.le_of_ble_eq_true rfl) (by decide) (c_below hj (by decide)) ?_
          refine J_if_eq (tgt := 35) dX6_seen_5 (by decide) (fun c => absurd c (by decide)) (fun _ => ?_)
          refine J_iload_2 dX6_seen_8 ?_
          refine J_bipush (v := nI 6) dX6_seen_9 (by decide) ?_
          refine J_cS2i dX6_seen_11 jmX6_isBelow ms_X6_60 (Nat.le_of_ble_eq_true rfl) (by decide) (c_below hk (by decide)) ?_
          refine J_if_eq (tgt := 35) dX6_seen_14 (by decide) (fun c => absurd c (by decide)) (fun _ => ?_)
          refine J_iload_3 dX6_seen_17 ?_
          refine J_ldc dX6_seen_18 kc_X6_159 ?_
          refine J_cS2i dX6_seen_20 jmX6_isBelow ms_X6_60 (Nat.le_of_ble_eq_true rfl) (by decide) (c_below hk2 (by decide)) ?_
          refine J_if_eq (tgt := 35) dX6_seen_23 (by decide) (fun c => absurd c (by decide)) (fun _ => ?_)
          refine J_iload_4 dX6_seen_26 ?_
          refine J_iconst (v := nI 2) dX6_seen_28 (by decide) ?_
          refine J_cS2i dX6_seen_29 jmX6_isBelow ms_X6_60 (Nat.le_of_ble_eq_true rfl) (by decide) (c_nbelow hw) ?_
          refine J_if_ne (tgt := 38) dX6_seen_32 (by decide) (fun c => absurd c (by decide)) (fun _ => ?_)
          refine J_bipush (v := -2) dX6_seen_35 (by decide) ?_
          exact J_iret dX6_seen_37 rfl (⟨rfl, rfl⟩)
      · refine J_iload_1 dX6_seen_0 ?_
        refine J_iconst (v := nI 2) dX6_seen_1 (by decide) ?_
        refine J_cS2i dX6_seen_2 jmX6_isBelow ms_X6_60 (Nat.le_of_ble_eq_true rfl) (by decide) (c_below hj (by decide)) ?_
        refine J_if_eq (tgt := 35) dX6_seen_5 (by decide) (fun c => absurd c (by decide)) (fun _ => ?_)
        refine J_iload_2 dX6_seen_8 ?_
        refine J_bipush (v := nI 6) dX6_seen_9 (by decide) ?_
        refine J_cS2i dX6_seen_11 jmX6_isBelow ms_X6_60 (Nat.le_of_ble_eq_true rfl) (by decide) (c_below hk (by decide)) ?_
        refine J_if_eq (tgt := 35) dX6_seen_14 (by decide) (fun c => absurd c (by decide)) (fun _ => ?_)
        refine J_iload_3 dX6_seen_17 ?_
        refine J_ldc dX6_seen_18 kc_X6_159 ?_
        refine J_cS2i dX6_seen_20 jmX6_isBelow ms_X6_60 (Nat.le_of_ble_eq_true rfl) (by decide) (c_nbelow hf) ?_
        refine J_if_eq (tgt := 35) dX6_seen_23 (by decide) (fun _ => ?_) (fun c => absurd (by decide) c)
        refine J_bipush (v := -2) dX6_seen_35 (by decide) ?_
        exact J_iret dX6_seen_37 rfl (⟨rfl, rfl⟩)
    · refine J_iload_1 dX6_seen_0 ?_
      refine J_iconst (v := nI 2) dX6_seen_1 (by decide) ?_
      refine J_cS2i dX6_seen_2 jmX6_isBelow ms_X6_60 (Nat.le_of_ble_eq_true rfl) (by decide) (c_below hj (by decide)) ?_
      refine J_if_eq (tgt := 35) dX6_seen_5 (by decide) (fun c => absurd c (by decide)) (fun _ => ?_)
      refine J_iload_2 dX6_seen_8 ?_
      refine J_bipush (v := nI 6) dX6_seen_9 (by decide) ?_
      refine J_cS2i dX6_seen_11 jmX6_isBelow ms_X6_60 (Nat.le_of_ble_eq_true rfl) (by decide) (c_nbelow hr) ?_
      refine J_if_eq (tgt := 35) dX6_seen_14 (by decide) (fun _ => ?_) (fun c => absurd (by decide) c)
      refine J_bipush (v := -2) dX6_seen_35 (by decide) ?_
      exact J_iret dX6_seen_37 rfl (⟨rfl, rfl⟩)
  · refine J_iload_1 dX6_seen_0 ?_
    refine J_iconst (v := nI 2) dX6_seen_1 (by decide) ?_
    refine J_cS2i dX6_seen_2 jmX6_isBelow ms_X6_60 (Nat.le_of_ble_eq_true rfl) (by decide) (c_nbelow hl) ?_
    refine J_if_eq (tgt := 35) dX6_seen_5 (by decide) (fun _ => ?_) (fun c => absurd (by decide) c)
    refine J_bipush (v := -2) dX6_seen_35 (by decide) ?_
    exact J_iret dX6_seen_37 rfl (⟨rfl, rfl⟩)
theorem c_seen_ok (p : dkAt h D ca xs) {l r f w : Nat} (hl : l < 2) (hr : r < 6) (hf : f < 300000) (hw : w < 2) : CtI X mX6_seen 3 [.ref 0, .int (nI l), .int (nI r), .int (nI f), .int (nI w)] h (sSeen D l r f w) := by
  obtain ⟨h0, ⟨fc, hfc, hfc0⟩, hca, hcut, hrest⟩ := id p
  have hC := hcut l hl
  have hc := hC.1
  have hag := hrest.2.2.2.2.2.2.2.2.1
  have h1 := c_ctimes (X := X) hC hr hf
  rw [tms_congr _ 0 (fun j hj => hag l j hl (by omega))] at h1
  have h2 := c_cfs (X := X) hC hr hf
  rw [fss_congr _ 0 (fun j hj => hag l j hl (by omega))] at h2
  refine Ct_of jmX6_seen [some (.ref 0), some (.int (nI l)), some (.int (nI r)), some (.int (nI f)), some (.int (nI w))] (Nat.le_of_ble_eq_true rfl) rfl ?_
  show J X RX6 cX6_seen 5 _ (some .int) _ 0 _ _ _
  refine J_iload_1 dX6_seen_0 ?_
  refine J_iconst (v := nI 2) dX6_seen_1 (by decide) ?_
  refine J_cS2i dX6_seen_2 jmX6_isBelow ms_X6_60 (Nat.le_of_ble_eq_true rfl) (by decide) (c_below hl (by decide)) ?_
  refine J_if_eq (tgt := 35) dX6_seen_5 (by decide) (fun c => absurd c (by decide)) (fun _ => ?_)
  refine J_iload_2 dX6_seen_8 ?_
  refine J_bipush (v := nI 6) dX6_seen_9 (by decide) ?_
  refine J_cS2i dX6_seen_11 jmX6_isBelow ms_X6_60 (Nat.le_of_ble_eq_true rfl) (by decide) (c_below hr (by decide)) ?_
  refine J_if_eq (tgt := 35) dX6_seen_14 (by decide) (fun c => absurd c (by decide)) (fun _ => ?_)
  refine J_iload_3 dX6_seen_17 ?_
  refine J_ldc dX6_seen_18 kc_X6_159 ?_
  refine J_cS2i dX6_seen_20 jmX6_isBelow ms_X6_60 (Nat.le_of_ble_eq_true rfl) (by decide) (c_below hf (by decide)) ?_
  refine J_if_eq (tgt := 35) dX6_seen_23 (by decide) (fun c => absurd c (by decide)) (fun _ => ?_)
  refine J_iload_4 dX6_seen_26 ?_
  refine J_iconst (v := nI 2) dX6_seen_28 (by decide) ?_
  refine J_cS2i dX6_seen_29 jmX6_isBelow ms_X6_60 (Nat.le_of_ble_eq_true rfl) (by decide) (c_below hw (by decide)) ?_
  refine J_if_ne (tgt := 38) dX6_seen_32 (by decide) (fun _ => ?_) (fun c => absurd c (by decide))
  refine J_iload_4 dX6_seen_38 ?_
  first | refine J_if_neB (tgt := 57) dX6_seen_40 (by decide) (fun c40 => ?_) (fun c40 => ?_) | refine J_if_neN (tgt := 57) dX6_seen_40 (by decide) (by omega) (fun c40 => ?_) (fun c40 => ?_) | refine J_if_ne (tgt := 57) dX6_seen_40 (by decide) (fun c40 => ?_) (fun c40 => ?_)
  · refine J_aload_0 dX6_seen_57 ?_
    refine J_get dX6_seen_58 fl_X6_11 h0 rfl ?_
    refine J_iload_1 dX6_seen_61 ?_
    refine J_aald dX6_seen_62 hfc ⟨_, rfl⟩ rfl (by omega) (by omega) (hfc0 l hl) ?_
    refine J_iload_2 dX6_seen_63 ?_
    refine J_iload_3 dX6_seen_64 ?_
    refine J_cV2i dX6_seen_65 jmX1_firstShowing mv_X6_164 hc rfl (Nat.le_of_ble_eq_true rfl) (by decide) (h2) ?_
    exact J_iret dX6_seen_68 rfl (⟨by unfold sSeen; first | rw [if_pos c40] | rw [if_neg (Nat.ne_of_gt c40)], rfl⟩)
  · refine J_aload_0 dX6_seen_43 ?_
    refine J_get dX6_seen_44 fl_X6_11 h0 rfl ?_
    refine J_iload_1 dX6_seen_47 ?_
    refine J_aald dX6_seen_48 hfc ⟨_, rfl⟩ rfl (by omega) (by omega) (hfc0 l hl) ?_
    refine J_iload_2 dX6_seen_49 ?_
    refine J_iload_3 dX6_seen_50 ?_
    refine J_cV2i dX6_seen_51 jmX1_times mv_X6_160 hc rfl (Nat.le_of_ble_eq_true rfl) (by decide) (h1) ?_
    refine J_goto (tgt := 68) dX6_seen_54 (by decide) ?_
    exact J_iret dX6_seen_68 rfl (⟨by unfold sSeen; first | rw [if_pos c40] | rw [if_neg (Nat.ne_of_gt c40)], rfl⟩)
theorem c_still_bad (p : dkAt h D ca xs) {l e w : Int32} (hb : ¬ ∃ j k u, j < 2 ∧ k < dn D j ∧ u < 2 ∧ l = nI j ∧ e = nI k ∧ w = nI u) : CtI X mX6_still 4 [.ref 0, .int l, .int e, .int w] h (-2) := by
  have h0 := p.1
  refine Ct_of jmX6_still [some (.ref 0), some (.int l), some (.int e), some (.int w), none] (Nat.le_of_ble_eq_true rfl) rfl ?_
  show J X RX6 cX6_still 5 _ (some .int) _ 0 _ _ _
  by_cases hE : ∃ j k, j < 2 ∧ k < dn D j ∧ l = nI j ∧ e = nI k
  · obtain ⟨j, k, hj, hk, rfl, rfl⟩ := hE
    have hw : ¬ (0 ≤ w ∧ w < nI 2) := fun z => by
      rcases ix_cases w 2 (by decide) with ⟨u, hu, rfl⟩ | q
      · exact hb ⟨j, k, u, hj, hk, hu, rfl, rfl, rfl⟩
      · exact q z
    refine J_aload_0 dX6_still_0 ?_
    refine J_iload_1 dX6_still_1 ?_
    refine J_iload_2 dX6_still_2 ?_
    refine J_cV2i dX6_still_3 jmX6_isEdit mv_X6_80 h0 rfl (Nat.le_of_ble_eq_true rfl) (by decide) (c_isEditT p hj hk) ?_
    refine J_if_eq (tgt := 17) dX6_still_6 (by decide) (fun c => absurd c (by decide)) (fun _ => ?_)
    refine J_iload_3 dX6_still_9 ?_
    refine J_iconst (v := nI 2) dX6_still_10 (by decide) ?_
    refine J_cS2i dX6_still_11 jmX6_isBelow ms_X6_60 (Nat.le_of_ble_eq_true rfl) (by decide) (c_nbelow hw) ?_
    refine J_if_ne (tgt := 20) dX6_still_14 (by decide) (fun c => absurd c (by decide)) (fun _ => ?_)
    refine J_bipush (v := -2) dX6_still_17 (by decide) ?_
    exact J_iret dX6_still_19 rfl (⟨rfl, rfl⟩)
  · refine J_aload_0 dX6_still_0 ?_
    refine J_iload_1 dX6_still_1 ?_
    refine J_iload_2 dX6_still_2 ?_
    refine J_cV2i dX6_still_3 jmX6_isEdit mv_X6_80 h0 rfl (Nat.le_of_ble_eq_true rfl) (by decide) (c_isEditF p hE) ?_
    refine J_if_eq (tgt := 17) dX6_still_6 (by decide) (fun _ => ?_) (fun c => absurd (by decide) c)
    refine J_bipush (v := -2) dX6_still_17 (by decide) ?_
    exact J_iret dX6_still_19 rfl (⟨rfl, rfl⟩)
theorem c_still_ok (p : dkAt h D ca xs) {l e w : Nat} (hl : l < 2) (he : e < dn D l) (hw : w < 2) : CtI X mX6_still 4 [.ref 0, .int (nI l), .int (nI e), .int (nI w)] h (sStill D l e w) := by
  obtain ⟨h0, ⟨fc, hfc, hfc0⟩, hca, hcut, hrest⟩ := id p
  obtain ⟨hc, ⟨g, hf, hfe⟩, hE, hn8⟩ := hcut l hl
  have hag := hrest.2.2.2.2.2.2.2.2.1
  have hEe := hE e (by omega)
  rw [hag l e hl he] at hEe
  have hE1 := hEe.1
  refine Ct_of jmX6_still [some (.ref 0), some (.int (nI l)), some (.int (nI e)), some (.int (nI w)), none] (Nat.le_of_ble_eq_true rfl) rfl ?_
  show J X RX6 cX6_still 5 _ (some .int) _ 0 _ _ _
  refine J_aload_0 dX6_still_0 ?_
  refine J_iload_1 dX6_still_1 ?_
  refine J_iload_2 dX6_still_2 ?_
  refine J_cV2i dX6_still_3 jmX6_isEdit mv_X6_80 h0 rfl (Nat.le_of_ble_eq_true rfl) (by decide) (c_isEditT p hl he) ?_
  refine J_if_eq (tgt := 17) dX6_still_6 (by decide) (fun c => absurd c (by decide)) (fun _ => ?_)
  refine J_iload_3 dX6_still_9 ?_
  refine J_iconst (v := nI 2) dX6_still_10 (by decide) ?_
  refine J_cS2i dX6_still_11 jmX6_isBelow ms_X6_60 (Nat.le_of_ble_eq_true rfl) (by decide) (c_below hw (by decide)) ?_
  refine J_if_ne (tgt := 20) dX6_still_14 (by decide) (fun _ => ?_) (fun c => absurd c (by decide))
  refine J_aload_0 dX6_still_20 ?_
  refine J_get dX6_still_21 fl_X6_11 h0 rfl ?_
  refine J_iload_1 dX6_still_24 ?_
  refine J_aald dX6_still_25 hfc ⟨_, rfl⟩ rfl (by omega) (by omega) (hfc0 l hl) ?_
  refine J_get dX6_still_26 fl_X6_86 hc rfl ?_
  refine J_iload_2 dX6_still_29 ?_
  refine J_aald dX6_still_30 hf ⟨_, rfl⟩ rfl (by omega) (by omega) (hfe e (by omega)) ?_
  refine J_astore_4 dX6_still_31 (Nat.le_of_ble_eq_true rfl) rfl ?_
  refine J_iload_3 dX6_still_33 ?_
  first | refine J_if_neB (tgt := 45) dX6_still_34 (by decide) (fun c34 => ?_) (fun c34 => ?_) | refine J_if_neN (tgt := 45) dX6_still_34 (by decide) (by omega) (fun c34 => ?_) (fun c34 => ?_) | refine J_if_ne (tgt := 45) dX6_still_34 (by decide) (fun c34 => ?_) (fun c34 => ?_)
  · refine J_aload_4 dX6_still_45 ?_
    refine J_cV0i dX6_still_47 jmX2_reach mv_X6_167 hE1 rfl (Nat.le_of_ble_eq_true rfl) (by decide) (c_reach hEe) ?_
    refine J_aload_4 dX6_still_50 ?_
    refine J_cV0i dX6_still_52 jmX2_different mv_X6_170 hE1 rfl (Nat.le_of_ble_eq_true rfl) (by decide) (c_different hEe) ?_
    refine J_isub dX6_still_55 ?_
    exact J_iret dX6_still_56 rfl (⟨by unfold sStill; first | rw [if_pos c34] | rw [if_neg (Nat.ne_of_gt c34)], rfl⟩)
  · refine J_aload_4 dX6_still_37 ?_
    refine J_get dX6_still_39 fl_X6_131 hE1 rfl ?_
    refine J_goto (tgt := 50) dX6_still_42 (by decide) ?_
    refine J_aload_4 dX6_still_50 ?_
    refine J_cV0i dX6_still_52 jmX2_different mv_X6_170 hE1 rfl (Nat.le_of_ble_eq_true rfl) (by decide) (c_different hEe) ?_
    refine J_isub dX6_still_55 ?_
    exact J_iret dX6_still_56 rfl (⟨by unfold sStill; first | rw [if_pos c34] | rw [if_neg (Nat.ne_of_gt c34)], rfl⟩)
theorem c_told_bad {f w : Int32} (hb : ¬ ((∃ k, k < 10000000 ∧ f = nI k) ∧ ∃ u, u < 4 ∧ w = nI u)) : CtI X mX6_told 2 [.ref 0, .int f, .int w] h (-2) := by
  refine Ct_of jmX6_told [some (.ref 0), some (.int f), some (.int w)] (Nat.le_of_ble_eq_true rfl) rfl ?_
  show J X RX6 cX6_told 3 _ (some .int) _ 0 _ _ _
  rcases ix_cases f 10000000 (by decide) with ⟨k, hk, rfl⟩ | hf
  · rcases ix_cases w 4 (by decide) with ⟨u, hu, rfl⟩ | hw
    · exact absurd ⟨⟨k, hk, rfl⟩, u, hu, rfl⟩ hb
    · refine J_iload_1 dX6_told_0 ?_
      refine J_ldc dX6_told_1 kc_X6_173 ?_
      refine J_cS2i dX6_told_3 jmX6_isBelow ms_X6_60 (Nat.le_of_ble_eq_true rfl) (by decide) (c_below hk (by decide)) ?_
      refine J_if_eq (tgt := 17) dX6_told_6 (by decide) (fun c => absurd c (by decide)) (fun _ => ?_)
      refine J_iload_2 dX6_told_9 ?_
      refine J_iconst (v := nI 4) dX6_told_10 (by decide) ?_
      refine J_cS2i dX6_told_11 jmX6_isBelow ms_X6_60 (Nat.le_of_ble_eq_true rfl) (by decide) (c_nbelow hw) ?_
      refine J_if_ne (tgt := 20) dX6_told_14 (by decide) (fun c => absurd c (by decide)) (fun _ => ?_)
      refine J_bipush (v := -2) dX6_told_17 (by decide) ?_
      exact J_iret dX6_told_19 rfl (⟨rfl, rfl⟩)
  · refine J_iload_1 dX6_told_0 ?_
    refine J_ldc dX6_told_1 kc_X6_173 ?_
    refine J_cS2i dX6_told_3 jmX6_isBelow ms_X6_60 (Nat.le_of_ble_eq_true rfl) (by decide) (c_nbelow hf) ?_
    refine J_if_eq (tgt := 17) dX6_told_6 (by decide) (fun _ => ?_) (fun c => absurd (by decide) c)
    refine J_bipush (v := -2) dX6_told_17 (by decide) ?_
    exact J_iret dX6_told_19 rfl (⟨rfl, rfl⟩)
theorem c_told_ok (p : dkAt h D ca xs) {f w : Nat} (hf : f < 10000000) (hw : w < 4) : CtI X mX6_told 2 [.ref 0, .int (nI f), .int (nI w)] h (nI (toldN f (dst D 0) w)) := by
  obtain ⟨h0, -, -, -, -, ⟨fs, hfs, hfs0⟩, hrest⟩ := id p
  have hc0 := hrest.2.2.2.2.2.2.2.1
  have e := hfs0 0 (by decide)
  have ct := c_partT (X := X) (h := h) hf hc0 hw
  rw [← e] at ct
  refine Ct_of jmX6_told [some (.ref 0), some (.int (nI f)), some (.int (nI w))] (Nat.le_of_ble_eq_true rfl) rfl ?_
  show J X RX6 cX6_told 3 _ (some .int) _ 0 _ _ _
  refine J_iload_1 dX6_told_0 ?_
  refine J_ldc dX6_told_1 kc_X6_173 ?_
  refine J_cS2i dX6_told_3 jmX6_isBelow ms_X6_60 (Nat.le_of_ble_eq_true rfl) (by decide) (c_below hf (by decide)) ?_
  refine J_if_eq (tgt := 17) dX6_told_6 (by decide) (fun c => absurd c (by decide)) (fun _ => ?_)
  refine J_iload_2 dX6_told_9 ?_
  refine J_iconst (v := nI 4) dX6_told_10 (by decide) ?_
  refine J_cS2i dX6_told_11 jmX6_isBelow ms_X6_60 (Nat.le_of_ble_eq_true rfl) (by decide) (c_below hw (by decide)) ?_
  refine J_if_ne (tgt := 20) dX6_told_14 (by decide) (fun _ => ?_) (fun c => absurd c (by decide))
  refine J_iload_1 dX6_told_20 ?_
  refine J_aload_0 dX6_told_21 ?_
  refine J_get dX6_told_22 fl_X6_22 h0 rfl ?_
  refine J_iconst (v := nI 0) dX6_told_25 (by decide) ?_
  refine J_iald dX6_told_26 hfs rfl (by omega) (by omega) ?_
  refine J_iload_2 dX6_told_27 ?_
  refine J_cS3i dX6_told_28 jmX0_part ms_X6_174 (Nat.le_of_ble_eq_true rfl) (by decide) (ct) ?_
  exact J_iret dX6_told_31 rfl (⟨rfl, rfl⟩)
def sNum (D : DS) (hh m s f : Nat) : Int32 := if dst D 0 = 0 ∧ (¬ m % 10 = 0 ∧ s = 0 ∧ f < 2) then -3 else nI (frmN (hh * 60 + m) s f (dst D 0))
theorem c_number_bad (p : dkAt h D ca xs) {a b c d : Int32} (hb : ¬ ((∃ k, k < 100 ∧ a = nI k) ∧ (∃ k, k < 60 ∧ b = nI k) ∧ (∃ k, k < 60 ∧ c = nI k) ∧ ∃ k, k < rt (dst D 0) ∧ d = nI k)) : CtI X mX6_number 2 [.ref 0, .int a, .int b, .int c, .int d] h (-2) := by
  obtain ⟨h0, -, -, -, -, ⟨fs, hfs, hfs0⟩, hrest⟩ := id p
  have hc0 := hrest.2.2.2.2.2.2.2.1
  have e := hfs0 0 (by decide)
  have ct := c_rate (X := X) (h := h) hc0
  rw [← e] at ct
  have hr := @rt_v (dst D 0)
  refine Ct_of jmX6_number [some (.ref 0), some (.int a), some (.int b), some (.int c), some (.int d), none] (Nat.le_of_ble_eq_true rfl) rfl ?_
  show J X RX6 cX6_number 6 _ (some .int) _ 0 _ _ _
  rcases ix_cases a 100 (by decide) with ⟨k1, hk1, rfl⟩ | ha
  · rcases ix_cases b 60 (by decide) with ⟨k2, hk2, rfl⟩ | hb
    · rcases ix_cases c 60 (by decide) with ⟨k3, hk3, rfl⟩ | hc
      · rcases ix_cases d (rt (dst D 0)) (by omega) with ⟨k4, hk4, rfl⟩ | hd
        · exact absurd ⟨⟨k1, hk1, rfl⟩, ⟨k2, hk2, rfl⟩, ⟨k3, hk3, rfl⟩, k4, hk4, rfl⟩ hb
        · refine J_aload_0 dX6_number_0 ?_
          refine J_get dX6_number_1 fl_X6_22 h0 rfl ?_
          refine J_iconst (v := nI 0) dX6_number_4 (by decide) ?_
          refine J_iald dX6_number_5 hfs rfl (by omega) (by omega) ?_
          refine J_istore_5 dX6_number_6 (Nat.le_of_ble_eq_true rfl) rfl ?_
          refine J_iload_1 dX6_number_8 ?_
          refine J_bipush (v := nI 100) dX6_number_9 (by decide) ?_
          refine J_cS2i dX6_number_11 jmX6_isBelow ms_X6_60 (Nat.le_of_ble_eq_true rfl) (by decide) (c_below hk1 (by decide)) ?_
          refine J_if_eq (tgt := 48) dX6_number_14 (by decide) (fun c => absurd c (by decide)) (fun _ => ?_)
          refine J_iload_2 dX6_number_17 ?_
          refine J_bipush (v := nI 60) dX6_number_18 (by decide) ?_
          refine J_cS2i dX6_number_20 jmX6_isBelow ms_X6_60 (Nat.le_of_ble_eq_true rfl) (by decide) (c_below hk2 (by decide)) ?_
          refine J_if_eq (tgt := 48) dX6_number_23 (by decide) (fun c => absurd c (by decide)) (fun _ => ?_)
          refine J_iload_3 dX6_number_26 ?_
          refine J_bipush (v := nI 60) dX6_number_27 (by decide) ?_
          refine J_cS2i dX6_number_29 jmX6_isBelow ms_X6_60 (Nat.le_of_ble_eq_true rfl) (by decide) (c_below hk3 (by decide)) ?_
          refine J_if_eq (tgt := 48) dX6_number_32 (by decide) (fun c => absurd c (by decide)) (fun _ => ?_)
          refine J_iload_4 dX6_number_35 ?_
          refine J_iload_5 dX6_number_37 ?_
          refine J_cS1i dX6_number_39 jmX0_rate ms_X6_179 (Nat.le_of_ble_eq_true rfl) (by decide) (ct) ?_
          refine J_cS2i dX6_number_42 jmX6_isBelow ms_X6_60 (Nat.le_of_ble_eq_true rfl) (by decide) (c_nbelow hd) ?_
          refine J_if_ne (tgt := 51) dX6_number_45 (by decide) (fun c => absurd c (by decide)) (fun _ => ?_)
          refine J_bipush (v := -2) dX6_number_48 (by decide) ?_
          exact J_iret dX6_number_50 rfl (⟨rfl, rfl⟩)
      · refine J_aload_0 dX6_number_0 ?_
        refine J_get dX6_number_1 fl_X6_22 h0 rfl ?_
        refine J_iconst (v := nI 0) dX6_number_4 (by decide) ?_
        refine J_iald dX6_number_5 hfs rfl (by omega) (by omega) ?_
        refine J_istore_5 dX6_number_6 (Nat.le_of_ble_eq_true rfl) rfl ?_
        refine J_iload_1 dX6_number_8 ?_
        refine J_bipush (v := nI 100) dX6_number_9 (by decide) ?_
        refine J_cS2i dX6_number_11 jmX6_isBelow ms_X6_60 (Nat.le_of_ble_eq_true rfl) (by decide) (c_below hk1 (by decide)) ?_
        refine J_if_eq (tgt := 48) dX6_number_14 (by decide) (fun c => absurd c (by decide)) (fun _ => ?_)
        refine J_iload_2 dX6_number_17 ?_
        refine J_bipush (v := nI 60) dX6_number_18 (by decide) ?_
        refine J_cS2i dX6_number_20 jmX6_isBelow ms_X6_60 (Nat.le_of_ble_eq_true rfl) (by decide) (c_below hk2 (by decide)) ?_
        refine J_if_eq (tgt := 48) dX6_number_23 (by decide) (fun c => absurd c (by decide)) (fun _ => ?_)
        refine J_iload_3 dX6_number_26 ?_
        refine J_bipush (v := nI 60) dX6_number_27 (by decide) ?_
        refine J_cS2i dX6_number_29 jmX6_isBelow ms_X6_60 (Nat.le_of_ble_eq_true rfl) (by decide) (c_nbelow hc) ?_
        refine J_if_eq (tgt := 48) dX6_number_32 (by decide) (fun _ => ?_) (fun c => absurd (by decide) c)
        refine J_bipush (v := -2) dX6_number_48 (by decide) ?_
        exact J_iret dX6_number_50 rfl (⟨rfl, rfl⟩)
    · refine J_aload_0 dX6_number_0 ?_
      refine J_get dX6_number_1 fl_X6_22 h0 rfl ?_
      refine J_iconst (v := nI 0) dX6_number_4 (by decide) ?_
      refine J_iald dX6_number_5 hfs rfl (by omega) (by omega) ?_
      refine J_istore_5 dX6_number_6 (Nat.le_of_ble_eq_true rfl) rfl ?_
      refine J_iload_1 dX6_number_8 ?_
      refine J_bipush (v := nI 100) dX6_number_9 (by decide) ?_
      refine J_cS2i dX6_number_11 jmX6_isBelow ms_X6_60 (Nat.le_of_ble_eq_true rfl) (by decide) (c_below hk1 (by decide)) ?_
      refine J_if_eq (tgt := 48) dX6_number_14 (by decide) (fun c => absurd c (by decide)) (fun _ => ?_)
      refine J_iload_2 dX6_number_17 ?_
      refine J_bipush (v := nI 60) dX6_number_18 (by decide) ?_
      refine J_cS2i dX6_number_20 jmX6_isBelow ms_X6_60 (Nat.le_of_ble_eq_true rfl) (by decide) (c_nbelow hb) ?_
      refine J_if_eq (tgt := 48) dX6_number_23 (by decide) (fun _ => ?_) (fun c => absurd (by decide) c)
      refine J_bipush (v := -2) dX6_number_48 (by decide) ?_
      exact J_iret dX6_number_50 rfl (⟨rfl, rfl⟩)
  · refine J_aload_0 dX6_number_0 ?_
    refine J_get dX6_number_1 fl_X6_22 h0 rfl ?_
    refine J_iconst (v := nI 0) dX6_number_4 (by decide) ?_
    refine J_iald dX6_number_5 hfs rfl (by omega) (by omega) ?_
    refine J_istore_5 dX6_number_6 (Nat.le_of_ble_eq_true rfl) rfl ?_
    refine J_iload_1 dX6_number_8 ?_
    refine J_bipush (v := nI 100) dX6_number_9 (by decide) ?_
    refine J_cS2i dX6_number_11 jmX6_isBelow ms_X6_60 (Nat.le_of_ble_eq_true rfl) (by decide) (c_nbelow ha) ?_
    refine J_if_eq (tgt := 48) dX6_number_14 (by decide) (fun _ => ?_) (fun c => absurd (by decide) c)
    refine J_bipush (v := -2) dX6_number_48 (by decide) ?_
    exact J_iret dX6_number_50 rfl (⟨rfl, rfl⟩)
theorem c_number_ok (p : dkAt h D ca xs) {a b c d : Nat} (ha : a < 100) (hb : b < 60) (hc : c < 60) (hd : d < rt (dst D 0)) : CtI X mX6_number 2 [.ref 0, .int (nI a), .int (nI b), .int (nI c), .int (nI d)] h (sNum D a b c d) := by
  obtain ⟨h0, -, -, -, -, ⟨fs, hfs, hfs0⟩, hrest⟩ := id p
  have hc0 := hrest.2.2.2.2.2.2.2.1
  have e := hfs0 0 (by decide)
  have hr := @rt_v (dst D 0)
  have ct := c_rate (X := X) (h := h) hc0
  have ctf := c_frame (X := X) (h := h) (m := a * 60 + b) (s := c) (f := d) (by omega) hc (by omega) hc0
  refine Ct_of jmX6_number [some (.ref 0), some (.int (nI a)), some (.int (nI b)), some (.int (nI c)), some (.int (nI d)), none] (Nat.le_of_ble_eq_true rfl) rfl ?_
  show J X RX6 cX6_number 6 _ (some .int) _ 0 _ _ _
  refine J_aload_0 dX6_number_0 ?_
  refine J_get dX6_number_1 fl_X6_22 h0 rfl ?_
  refine J_iconst (v := nI 0) dX6_number_4 (by decide) ?_
  refine J_iald dX6_number_5 hfs rfl (by omega) (by omega) ?_
  refine J_topi (b := nI (dst D 0)) (e) ?_
  refine J_istore_5 dX6_number_6 (Nat.le_of_ble_eq_true rfl) rfl ?_
  refine J_iload_1 dX6_number_8 ?_
  refine J_bipush (v := nI 100) dX6_number_9 (by decide) ?_
  refine J_cS2i dX6_number_11 jmX6_isBelow ms_X6_60 (Nat.le_of_ble_eq_true rfl) (by decide) (c_below ha (by decide)) ?_
  refine J_if_eq (tgt := 48) dX6_number_14 (by decide) (fun c => absurd c (by decide)) (fun _ => ?_)
  refine J_iload_2 dX6_number_17 ?_
  refine J_bipush (v := nI 60) dX6_number_18 (by decide) ?_
  refine J_cS2i dX6_number_20 jmX6_isBelow ms_X6_60 (Nat.le_of_ble_eq_true rfl) (by decide) (c_below hb (by decide)) ?_
  refine J_if_eq (tgt := 48) dX6_number_23 (by decide) (fun c => absurd c (by decide)) (fun _ => ?_)
  refine J_iload_3 dX6_number_26 ?_
  refine J_bipush (v := nI 60) dX6_number_27 (by decide) ?_
  refine J_cS2i dX6_number_29 jmX6_isBelow ms_X6_60 (Nat.le_of_ble_eq_true rfl) (by decide) (c_below hc (by decide)) ?_
  refine J_if_eq (tgt := 48) dX6_number_32 (by decide) (fun c => absurd c (by decide)) (fun _ => ?_)
  refine J_iload_4 dX6_number_35 ?_
  refine J_iload_5 dX6_number_37 ?_
  refine J_cS1i dX6_number_39 jmX0_rate ms_X6_179 (Nat.le_of_ble_eq_true rfl) (by decide) (ct) ?_
  refine J_cS2i dX6_number_42 jmX6_isBelow ms_X6_60 (Nat.le_of_ble_eq_true rfl) (by decide) (c_below hd (by omega)) ?_
  refine J_if_ne (tgt := 51) dX6_number_45 (by decide) (fun _ => ?_) (fun c => absurd c (by decide))
  refine J_iload_5 dX6_number_51 ?_
  first | refine J_if_neB (tgt := 69) dX6_number_53 (by decide) (fun c53 => ?_) (fun c53 => ?_) | refine J_if_neN (tgt := 69) dX6_number_53 (by decide) (by omega) (fun c53 => ?_) (fun c53 => ?_) | refine J_if_ne (tgt := 69) dX6_number_53 (by decide) (fun c53 => ?_) (fun c53 => ?_)
  · refine J_iload_1 dX6_number_69 ?_
    refine J_bipush (v := nI 60) dX6_number_70 (by decide) ?_
    first | refine J_imulN dX6_number_72 ?_ | refine J_imul dX6_number_72 ?_
    refine J_iload_2 dX6_number_73 ?_
    first | refine J_iaddN dX6_number_74 ?_ | refine J_iadd dX6_number_74 ?_
    refine J_iload_3 dX6_number_75 ?_
    refine J_iload_4 dX6_number_76 ?_
    refine J_iload_5 dX6_number_78 ?_
    refine J_cS4i dX6_number_80 jmX0_frame ms_X6_186 (Nat.le_of_ble_eq_true rfl) (by decide) (ctf) ?_
    exact J_iret dX6_number_83 rfl (⟨by unfold sNum; first | rw [if_neg (fun z => c63 z.2)] | rw [if_neg (fun z => absurd z.1 (Nat.ne_of_gt c53))], rfl⟩)
  · refine J_iload_2 dX6_number_56 ?_
    refine J_iload_3 dX6_number_57 ?_
    refine J_iload_4 dX6_number_58 ?_
    refine J_cS3i dX6_number_60 jmX0_isLeftOut ms_X6_182 (Nat.le_of_ble_eq_true rfl) (by decide) (c_isLeftOut hb hc (by omega)) ?_
    first | refine J_if_eqB (tgt := 69) dX6_number_63 (by decide) (fun c63 => ?_) (fun c63 => ?_) | refine J_if_eqN (tgt := 69) dX6_number_63 (by decide) (by omega) (fun c63 => ?_) (fun c63 => ?_) | refine J_if_eq (tgt := 69) dX6_number_63 (by decide) (fun c63 => ?_) (fun c63 => ?_)
    · refine J_iload_1 dX6_number_69 ?_
      refine J_bipush (v := nI 60) dX6_number_70 (by decide) ?_
      first | refine J_imulN dX6_number_72 ?_ | refine J_imul dX6_number_72 ?_
      refine J_iload_2 dX6_number_73 ?_
      first | refine J_iaddN dX6_number_74 ?_ | refine J_iadd dX6_number_74 ?_
      refine J_iload_3 dX6_number_75 ?_
      refine J_iload_4 dX6_number_76 ?_
      refine J_iload_5 dX6_number_78 ?_
      refine J_cS4i dX6_number_80 jmX0_frame ms_X6_186 (Nat.le_of_ble_eq_true rfl) (by decide) (ctf) ?_
      exact J_iret dX6_number_83 rfl (⟨by unfold sNum; first | rw [if_neg (fun z => c63 z.2)] | rw [if_neg (fun z => absurd z.1 (Nat.ne_of_gt c53))], rfl⟩)
    · refine J_bipush (v := -3) dX6_number_66 (by decide) ?_
      exact J_iret dX6_number_68 rfl (⟨by unfold sNum; rw [if_pos ⟨c53, c63⟩], rfl⟩)
end
