/-! seen, still of the reference -/
def smk (x : Nat → Nat) (k m : Nat) : Nat := match m with
  | 0 => 0
  | m + 1 => (if fr x k = fr x (k - 1) then 1 else 0) + smk x (k + 1) m
theorem smk_slow {x : Nat → Nat} (ok : edOk x) (hp : x 3 ≤ x 4) : ∀ (m k : Nat), 1 ≤ k → smk x k m + (fr x (k - 1 + m) - fr x (k - 1)) = m := by
  obtain ⟨o0, o1, o2, o3, o4, o5, o6⟩ := ok
  intro m
  induction m with
  | zero => intro k _; rw [smk, Nat.add_zero]; omega
  | succ m ih =>
    intro k hk
    have h1 := ih (k + 1) (by omega)
    have e1 : k + 1 - 1 = k := by omega
    rw [e1] at h1
    have e2 : k - 1 + (m + 1) = k + m := by omega
    have hs : fr x k ≤ fr x (k - 1) + 1 := by
      have hk2 : k * x 3 = (k - 1) * x 3 + x 3 := by
        have : k = (k - 1) + 1 := by omega
        conv => lhs; rw [this, Nat.add_mul, Nat.one_mul]
      have h5 : k * x 3 / x 4 ≤ ((k - 1) * x 3 + x 4) / x 4 := Nat.div_le_div_right (by omega)
      rw [Nat.add_div_right _ (by omega)] at h5
      unfold fr
      omega
    have hm := @fr_mono x (k - 1) k (by omega)
    have hm2 := @fr_mono x k (k + m) (by omega)
    rw [smk, e2]
    split <;> omega
theorem smk_fast {x : Nat → Nat} (ok : edOk x) (hp : x 4 < x 3) : ∀ (m k : Nat), 1 ≤ k → smk x k m = 0 := by
  obtain ⟨o0, o1, o2, o3, o4, o5, o6⟩ := ok
  intro m
  induction m with
  | zero => intro k _; rfl
  | succ m ih =>
    intro k hk
    have hs : fr x (k - 1) + 1 ≤ fr x k := by
      have hk2 : k * x 3 = (k - 1) * x 3 + x 3 := by
        have : k = (k - 1) + 1 := by omega
        conv => lhs; rw [this, Nat.add_mul, Nat.one_mul]
      have h5 : ((k - 1) * x 3 + x 4) / x 4 ≤ k * x 3 / x 4 := Nat.div_le_div_right (by omega)
      rw [Nat.add_div_right _ (by omega)] at h5
      unfold fr
      omega
    rw [smk, ih (k + 1) (by omega), if_neg (by omega)]
theorem smk_diff {x : Nat → Nat} (ok : edOk x) : eddiff x ≤ x 2 ∧ smk x 1 (x 2 - 1) = x 2 - eddiff x := by
  have o2 := ok.2.2.1
  unfold eddiff
  by_cases hp : x 3 ≤ x 4
  · have h1 := smk_slow ok hp (x 2 - 1) 1 (by omega)
    rw [show 1 - 1 + (x 2 - 1) = x 2 - 1 by omega, show (1 : Nat) - 1 = 0 from rfl, fr_0] at h1
    have h2 : fr x (x 2 - 1) = fl_ x := rfl
    rw [h2] at h1
    rw [if_pos hp]
    omega
  · rw [if_neg hp, smk_fast ok (by omega) _ _ (by omega)]
    omega
section
variable {X : Cx} {h : HF} {D : DS} {tb : Int32} {F : Nat → Nat → Int32}
theorem l_mstill (p : mdAt h D tb F) {l e w : Nat} (hl : l < 2) (he : e < dn D l) (hw : w < 2) : ∀ (m k s : Nat), k + m = de D l e 2 → 1 ≤ k → s + smk (de D l e) k m = smk (de D l e) 1 (de D l e 2 - 1) → J X RX7 cX7_stillOf 5 2 (some .int) (fun r h' => r = some (.int (sStill D l e w)) ∧ h' = h) 5 [some (.ref 51), some (.int (nI (8 * l + e))), some (.int (nI w)), some (.int (nI s)), some (.int (nI k))] [] h := by
  obtain ⟨h0, -, ⟨a0, a1, a2, a3, a4⟩, hF, -⟩ := id p
  obtain ⟨hE, ok, h8⟩ := mdE p hl he
  have o3 := ok.2.2.2.1
  have e1 := hF l e 1 hl he (by decide)
  have e2 := hF l e 2 hl he (by decide)
  obtain ⟨d1, d2⟩ := smk_diff ok
  have hg : de D l e 1 ≤ fl_ (de D l e) := fr_ge
  intro m
  induction m with
  | zero =>
    intro k s hk h1 hs
    have hs : s = smk (de D l e) 1 (de D l e 2 - 1) := hs
    rw [d2] at hs
    have hsub : nI (de D l e 2) - nI s = nI (eddiff (de D l e)) := by rw [pk_sub (by omega), hs]; congr 1; omega
    refine J_iload_4 dX7_stillOf_5 ?_
    refine J_aload_0 dX7_stillOf_7 ?_
    refine J_get dX7_stillOf_8 fl_X7_19 h0 rfl ?_
    refine J_iload_1 dX7_stillOf_11 ?_
    refine J_iald dX7_stillOf_12 a2 rfl (by omega) (by omega) ?_
    refine J_topi (b := nI (de D l e 2)) (e2) ?_
    refine J_icmp_geN (tgt := 49) dX7_stillOf_13 (by decide) (by omega) (by omega) (fun _ => ?_) (fun c => absurd c (by omega))
    refine J_iload_2 dX7_stillOf_49 ?_
    first | refine J_if_neB (tgt := 57) dX7_stillOf_50 (by decide) (fun c50 => ?_) (fun c50 => ?_) | refine J_if_neN (tgt := 57) dX7_stillOf_50 (by decide) (by omega) (fun c50 => ?_) (fun c50 => ?_) | refine J_if_ne (tgt := 57) dX7_stillOf_50 (by decide) (fun c50 => ?_) (fun c50 => ?_)
    · refine J_aload_0 dX7_stillOf_57 ?_
      refine J_iload_1 dX7_stillOf_58 ?_
      refine J_cV1i dX7_stillOf_59 jmX7_lastOf mv_X7_114 h0 rfl (Nat.le_of_ble_eq_true rfl) (by decide) (m_lastOf p hl he) ?_
      refine J_aload_0 dX7_stillOf_62 ?_
      refine J_get dX7_stillOf_63 fl_X7_16 h0 rfl ?_
      refine J_iload_1 dX7_stillOf_66 ?_
      refine J_iald dX7_stillOf_67 a1 rfl (by omega) (by omega) ?_
      refine J_topi (b := nI (de D l e 1)) (e1) ?_
      first | refine J_isubN dX7_stillOf_68 (by omega) ?_ | refine J_isub dX7_stillOf_68 ?_
      refine J_iconst (v := nI 1) dX7_stillOf_69 (by decide) ?_
      first | refine J_iaddN dX7_stillOf_70 ?_ | refine J_iadd dX7_stillOf_70 ?_
      refine J_aload_0 dX7_stillOf_71 ?_
      refine J_get dX7_stillOf_72 fl_X7_19 h0 rfl ?_
      refine J_iload_1 dX7_stillOf_75 ?_
      refine J_iald dX7_stillOf_76 a2 rfl (by omega) (by omega) ?_
      refine J_topi (b := nI (de D l e 2)) (e2) ?_
      refine J_iload_3 dX7_stillOf_77 ?_
      refine J_isub dX7_stillOf_78 ?_
      refine J_topi (b := nI (eddiff (de D l e))) (hsub) ?_
      refine J_isub dX7_stillOf_79 ?_
      exact J_iret dX7_stillOf_80 rfl (⟨by unfold sStill; first | (rw [if_pos c50, hs, ← pk_sub d1]) | rw [if_neg (Nat.ne_of_gt c50)], rfl⟩)
    · refine J_iload_3 dX7_stillOf_53 ?_
      refine J_goto (tgt := 80) dX7_stillOf_54 (by decide) ?_
      exact J_iret dX7_stillOf_80 rfl (⟨by unfold sStill; first | (rw [if_pos c50, hs, ← pk_sub d1]) | rw [if_neg (Nat.ne_of_gt c50)], rfl⟩)
  | succ m ih =>
    intro k s hk h1 hs
    have f1 := fr_le ok (k := k) (by omega)
    have f2 := fr_le ok (k := k - 1) (by omega)
    rw [smk] at hs
    refine J_iload_4 dX7_stillOf_5 ?_
    refine J_aload_0 dX7_stillOf_7 ?_
    refine J_get dX7_stillOf_8 fl_X7_19 h0 rfl ?_
    refine J_iload_1 dX7_stillOf_11 ?_
    refine J_iald dX7_stillOf_12 a2 rfl (by omega) (by omega) ?_
    refine J_topi (b := nI (de D l e 2)) (e2) ?_
    refine J_icmp_geN (tgt := 49) dX7_stillOf_13 (by decide) (by omega) (by omega) (fun c => absurd c (by omega)) (fun _ => ?_)
    refine J_iload_3 dX7_stillOf_16 ?_
    refine J_aload_0 dX7_stillOf_17 ?_
    refine J_iload_1 dX7_stillOf_18 ?_
    refine J_iload_4 dX7_stillOf_19 ?_
    refine J_cV2i dX7_stillOf_21 jmX7_frameOf mv_X7_107 h0 rfl (Nat.le_of_ble_eq_true rfl) (by decide) (m_frameOf p hl he (by omega)) ?_
    refine J_aload_0 dX7_stillOf_24 ?_
    refine J_iload_1 dX7_stillOf_25 ?_
    refine J_iload_4 dX7_stillOf_26 ?_
    refine J_iconst (v := nI 1) dX7_stillOf_28 (by decide) ?_
    first | refine J_isubN dX7_stillOf_29 (by omega) ?_ | refine J_isub dX7_stillOf_29 ?_
    refine J_cV2i dX7_stillOf_30 jmX7_frameOf mv_X7_107 h0 rfl (Nat.le_of_ble_eq_true rfl) (by decide) (m_frameOf p hl he (by omega)) ?_
    first | refine J_icmp_neN (tgt := 40) dX7_stillOf_33 (by decide) (by omega) (by omega) (fun c33 => ?_) (fun c33 => ?_) | refine J_icmp_ne (tgt := 40) dX7_stillOf_33 (by decide) (fun c33 => ?_) (fun c33 => ?_)
    · rw [if_neg c33] at hs
      refine J_iconst (v := nI 0) dX7_stillOf_40 (by decide) ?_
      first | refine J_iaddN dX7_stillOf_41 ?_ | refine J_iadd dX7_stillOf_41 ?_
      refine J_istore_3 dX7_stillOf_42 (Nat.le_of_ble_eq_true rfl) rfl ?_
      first | refine J_inc_4 dX7_stillOf_43 (Nat.le_of_ble_eq_true rfl) rfl ?_ | refine J_iinc_4 dX7_stillOf_43 rfl (Nat.le_of_ble_eq_true rfl) rfl ?_
      refine J_goto (tgt := 5) dX7_stillOf_46 (by decide) ?_
      exact ih (k + 1) _ (by omega) (by omega) (by omega)
    · rw [if_pos c33] at hs
      refine J_iconst (v := nI 1) dX7_stillOf_36 (by decide) ?_
      refine J_goto (tgt := 41) dX7_stillOf_37 (by decide) ?_
      first | refine J_iaddN dX7_stillOf_41 ?_ | refine J_iadd dX7_stillOf_41 ?_
      refine J_istore_3 dX7_stillOf_42 (Nat.le_of_ble_eq_true rfl) rfl ?_
      first | refine J_inc_4 dX7_stillOf_43 (Nat.le_of_ble_eq_true rfl) rfl ?_ | refine J_iinc_4 dX7_stillOf_43 rfl (Nat.le_of_ble_eq_true rfl) rfl ?_
      refine J_goto (tgt := 5) dX7_stillOf_46 (by decide) ?_
      exact ih (k + 1) _ (by omega) (by omega) (by omega)
theorem m_stillOf (p : mdAt h D tb F) {l e w : Nat} (hl : l < 2) (he : e < dn D l) (hw : w < 2) : CtI X mX7_stillOf 2 [.ref 51, .int (nI (8 * l + e)), .int (nI w)] h (sStill D l e w) := by
  obtain ⟨hE, ok, h8⟩ := mdE p hl he
  have o2 := ok.2.2.1
  refine Ct_of jmX7_stillOf [some (.ref 51), some (.int (nI (8 * l + e))), some (.int (nI w)), none, none] (Nat.le_of_ble_eq_true rfl) rfl ?_
  show J X RX7 cX7_stillOf 5 _ (some .int) _ 0 _ _ _
  refine J_iconst (v := nI 0) dX7_stillOf_0 (by decide) ?_
  refine J_istore_3 dX7_stillOf_1 (Nat.le_of_ble_eq_true rfl) rfl ?_
  refine J_iconst (v := nI 1) dX7_stillOf_2 (by decide) ?_
  refine J_istore_4 dX7_stillOf_3 (Nat.le_of_ble_eq_true rfl) rfl ?_
  exact l_mstill p hl he hw (de D l e 2 - 1) 1 0 (by omega) (by omega) (by omega)
theorem m_still_bad (p : mdAt h D tb F) {l e w : Int32} (hb : ¬ ∃ j k u, j < 2 ∧ k < dn D j ∧ u < 2 ∧ l = nI j ∧ e = nI k ∧ w = nI u) : CtI X mX7_still 3 [.ref 51, .int l, .int e, .int w] h (-2) := by
  have h0 := p.1
  refine Ct_of jmX7_still [some (.ref 51), some (.int l), some (.int e), some (.int w)] (Nat.le_of_ble_eq_true rfl) rfl ?_
  show J X RX7 cX7_still 4 _ (some .int) _ 0 _ _ _
  by_cases hE : ∃ j k, j < 2 ∧ k < dn D j ∧ l = nI j ∧ e = nI k
  · obtain ⟨j, k, hj, hk, rfl, rfl⟩ := hE
    have hw : ¬ (0 ≤ w ∧ w < nI 2) := fun z => by
      rcases ix_cases w 2 (by decide) with ⟨u, hu, rfl⟩ | q
      · exact hb ⟨j, k, u, hj, hk, hu, rfl, rfl, rfl⟩
      · exact q z
    refine J_aload_0 dX7_still_0 ?_
    refine J_iload_1 dX7_still_1 ?_
    refine J_iload_2 dX7_still_2 ?_
    refine J_cV2i dX7_still_3 jmX7_isEdit mv_X7_89 h0 rfl (Nat.le_of_ble_eq_true rfl) (by decide) (m_isEditT p hj hk) ?_
    refine J_if_eq (tgt := 32) dX7_still_6 (by decide) (fun c => absurd c (by decide)) (fun _ => ?_)
    refine J_iload_3 dX7_still_9 ?_
    refine J_iconst (v := nI 0) dX7_still_10 (by decide) ?_
    refine J_iconst (v := nI 1) dX7_still_11 (by decide) ?_
    refine J_cS3i dX7_still_12 jmX7_in ms_X7_69 (Nat.le_of_ble_eq_true rfl) (by decide) (m_inB (n := 1) (by decide) hw) ?_
    refine J_if_eq (tgt := 32) dX7_still_15 (by decide) (fun _ => ?_) (fun c => absurd (by decide) c)
    refine J_bipush (v := -2) dX7_still_32 (by decide) ?_
    exact J_iret dX7_still_34 rfl (⟨rfl, rfl⟩)
  · refine J_aload_0 dX7_still_0 ?_
    refine J_iload_1 dX7_still_1 ?_
    refine J_iload_2 dX7_still_2 ?_
    refine J_cV2i dX7_still_3 jmX7_isEdit mv_X7_89 h0 rfl (Nat.le_of_ble_eq_true rfl) (by decide) (m_isEditF p hE) ?_
    refine J_if_eq (tgt := 32) dX7_still_6 (by decide) (fun _ => ?_) (fun c => absurd (by decide) c)
    refine J_bipush (v := -2) dX7_still_32 (by decide) ?_
    exact J_iret dX7_still_34 rfl (⟨rfl, rfl⟩)
theorem m_still_ok (p : mdAt h D tb F) {l e w : Nat} (hl : l < 2) (he : e < dn D l) (hw : w < 2) : CtI X mX7_still 3 [.ref 51, .int (nI l), .int (nI e), .int (nI w)] h (sStill D l e w) := by
  have h0 := p.1
  refine Ct_of jmX7_still [some (.ref 51), some (.int (nI l)), some (.int (nI e)), some (.int (nI w))] (Nat.le_of_ble_eq_true rfl) rfl ?_
  show J X RX7 cX7_still 4 _ (some .int) _ 0 _ _ _
  refine J_aload_0 dX7_still_0 ?_
  refine J_iload_1 dX7_still_1 ?_
  refine J_iload_2 dX7_still_2 ?_
  refine J_cV2i dX7_still_3 jmX7_isEdit mv_X7_89 h0 rfl (Nat.le_of_ble_eq_true rfl) (by decide) (m_isEditT p hl he) ?_
  refine J_if_eq (tgt := 32) dX7_still_6 (by decide) (fun c => absurd c (by decide)) (fun _ => ?_)
  refine J_iload_3 dX7_still_9 ?_
  refine J_iconst (v := nI 0) dX7_still_10 (by decide) ?_
  refine J_iconst (v := nI 1) dX7_still_11 (by decide) ?_
  refine J_cS3i dX7_still_12 jmX7_in ms_X7_69 (Nat.le_of_ble_eq_true rfl) (by decide) (m_inT (by omega) (by omega) (by decide)) ?_
  refine J_if_eq (tgt := 32) dX7_still_15 (by decide) (fun c => absurd c (by decide)) (fun _ => ?_)
  refine J_aload_0 dX7_still_18 ?_
  refine J_bipush (v := nI 8) dX7_still_19 (by decide) ?_
  refine J_iload_1 dX7_still_21 ?_
  first | refine J_imulN dX7_still_22 ?_ | refine J_imul dX7_still_22 ?_
  refine J_iload_2 dX7_still_23 ?_
  first | refine J_iaddN dX7_still_24 ?_ | refine J_iadd dX7_still_24 ?_
  refine J_iload_3 dX7_still_25 ?_
  refine J_cV2i dX7_still_26 jmX7_stillOf mv_X7_129 h0 rfl (Nat.le_of_ble_eq_true rfl) (by decide) (m_stillOf p hl he hw) ?_
  refine J_goto (tgt := 34) dX7_still_29 (by decide) ?_
  exact J_iret dX7_still_34 rfl (⟨rfl, rfl⟩)
/-- where frame f is shown first, unless it was already -/
def frst (o : Option Nat) (q : Option Nat) : Option Nat := match o with
  | some a => some a
  | none => q
/-- the frames k on of one EDIT, m of them -/
theorem l_mseenK (p : mdAt h D tb F) {l e r f : Nat} (hl : l < 2) (he : e < dn D l) (hr : r < 6) (hf : f < 300000) {w : Int32} {Q : Option Value → HF → Prop} {s1 : Nat} {o1 : Option Nat} (kk : ∀ o10 o11, lok o10 = true → J X RX7 cX7_seenOf 12 1 (some .int) Q 121 [some (.ref 51), some (.int (nI l)), some (.int (nI r)), some (.int (nI f)), some (.int w), some (.int (nI s1)), some (.int (oN o1)), some (.int (nI (bg (de D l) (e + 1)))), some (.int (nI e)), some (.int (nI (8 * l + e))), o10, o11] [] h) :
    ∀ (m k s : Nat) (o : Option Nat) (o11 : Option Value), k + m = de D l e 2 → (∀ a, o = some a → a < 2 ^ 31) → s + (if de D l e 0 = r then cnk (de D l e) f k m else 0) = s1 → frst o (if de D l e 0 = r then (fsk (de D l e) f k m).map (fun j => bg (de D l) e + j) else none) = o1 →
    J X RX7 cX7_seenOf 12 1 (some .int) Q 35 [some (.ref 51), some (.int (nI l)), some (.int (nI r)), some (.int (nI f)), some (.int w), some (.int (nI s)), some (.int (oN o)), some (.int (nI (bg (de D l) e + k))), some (.int (nI e)), some (.int (nI (8 * l + e))), some (.int (nI k)), o11] [] h := by
  obtain ⟨h0, -, ⟨a0, a1, a2, a3, a4⟩, hF, -⟩ := id p
  obtain ⟨hE, ok, h8⟩ := mdE p hl he
  have o3 := ok.2.2.2.1
  have o0 := ok.1
  have e0 := hF l e 0 hl he (by decide)
  have e2 := hF l e 2 hl he (by decide)
  have hbl := bg_le2 (fun e he => p.2.2.2.2.2.2.2.2.2.2.2.2.2.2.1 l e hl he) e (by omega)
  intro m
  induction m with
  | zero =>
    intro k s o o11 hk ho hs hq
    have hs' : s = s1 := by rw [← hs]; split <;> rfl
    have hq' : o = o1 := by rw [← hq]; cases o <;> (split <;> rfl)
    have hk' : bg (de D l) e + k = bg (de D l) (e + 1) := by show _ = bg (de D l) e + de D l e 2; omega
    rw [hk', hs', hq']
    refine J_iload_10 dX7_seenOf_35 ?_
    refine J_aload_0 dX7_seenOf_37 ?_
    refine J_get dX7_seenOf_38 fl_X7_19 h0 rfl ?_
    refine J_iload_9 dX7_seenOf_41 ?_
    refine J_iald dX7_seenOf_43 a2 rfl (by omega) (by omega) ?_
    refine J_topi (b := nI (de D l e 2)) (e2) ?_
    refine J_icmp_geN (tgt := 121) dX7_seenOf_44 (by decide) (by omega) (by omega) (fun _ => ?_) (fun c => absurd c (by omega))
    exact kk _ _ rfl
  | succ m ih =>
    intro k s o o11 hk ho hs hq
    have f1 := fr_le ok (k := k) (by omega)
    by_cases c : de D l e 0 = r ∧ fr (de D l e) k = f
    · rw [if_pos c.1, cnk, if_pos c.2] at hs
      rw [if_pos c.1, fsk, if_pos c.2] at hq
      cases o with
      | none =>
        have hq : some (bg (de D l) e + k) = o1 := hq
        refine J_iload_10 dX7_seenOf_35 ?_
        refine J_aload_0 dX7_seenOf_37 ?_
        refine J_get dX7_seenOf_38 fl_X7_19 h0 rfl ?_
        refine J_iload_9 dX7_seenOf_41 ?_
        refine J_iald dX7_seenOf_43 a2 rfl (by omega) (by omega) ?_
        refine J_topi (b := nI (de D l e 2)) (e2) ?_
        refine J_icmp_geN (tgt := 121) dX7_seenOf_44 (by decide) (by omega) (by omega) (fun c => absurd c (by omega)) (fun _ => ?_)
        refine J_aload_0 dX7_seenOf_47 ?_
        refine J_get dX7_seenOf_48 fl_X7_13 h0 rfl ?_
        refine J_iload_9 dX7_seenOf_51 ?_
        refine J_iald dX7_seenOf_53 a0 rfl (by omega) (by omega) ?_
        refine J_topi (b := nI (de D l e 0)) (e0) ?_
        refine J_iload_2 dX7_seenOf_54 ?_
        refine J_icmp_neN (tgt := 74) dX7_seenOf_55 (by decide) (by omega) (by omega) (fun c => absurd c (by omega)) (fun _ => ?_)
        refine J_aload_0 dX7_seenOf_58 ?_
        refine J_iload_9 dX7_seenOf_59 ?_
        refine J_iload_10 dX7_seenOf_61 ?_
        refine J_cV2i dX7_seenOf_63 jmX7_frameOf mv_X7_107 h0 rfl (Nat.le_of_ble_eq_true rfl) (by decide) (m_frameOf p hl he (by omega)) ?_
        refine J_iload_3 dX7_seenOf_66 ?_
        refine J_icmp_neN (tgt := 74) dX7_seenOf_67 (by decide) (by omega) (by omega) (fun c => absurd c (by omega)) (fun _ => ?_)
        refine J_iconst (v := nI 1) dX7_seenOf_70 (by decide) ?_
        refine J_goto (tgt := 75) dX7_seenOf_71 (by decide) ?_
        refine J_istore_11 dX7_seenOf_75 (Nat.le_of_ble_eq_true rfl) rfl ?_
        refine J_iload_5 dX7_seenOf_77 ?_
        refine J_iload_11 dX7_seenOf_79 ?_
        refine J_if_eqN (tgt := 88) dX7_seenOf_81 (by decide) (by omega) (fun c => absurd c (by omega)) (fun _ => ?_)
        refine J_iconst (v := nI 1) dX7_seenOf_84 (by decide) ?_
        refine J_goto (tgt := 89) dX7_seenOf_85 (by decide) ?_
        first | refine J_iaddN dX7_seenOf_89 ?_ | refine J_iadd dX7_seenOf_89 ?_
        refine J_istore_5 dX7_seenOf_90 (Nat.le_of_ble_eq_true rfl) rfl ?_
        refine J_iload_11 dX7_seenOf_92 ?_
        refine J_if_eqN (tgt := 108) dX7_seenOf_94 (by decide) (by omega) (fun c => absurd c (by omega)) (fun _ => ?_)
        refine J_iload_6 dX7_seenOf_97 ?_
        refine J_iconst (v := -1) dX7_seenOf_99 (by decide) ?_
        refine J_icmp_ne (tgt := 108) dX7_seenOf_100 (by decide) (fun c => absurd c (fun z => z rfl)) (fun _ => ?_)
        refine J_iload_7 dX7_seenOf_103 ?_
        refine J_goto (tgt := 110) dX7_seenOf_105 (by decide) ?_
        refine J_istore_6 dX7_seenOf_110 (Nat.le_of_ble_eq_true rfl) rfl ?_
        first | refine J_inc_7 dX7_seenOf_112 (Nat.le_of_ble_eq_true rfl) rfl ?_ | refine J_iinc_7 dX7_seenOf_112 rfl (Nat.le_of_ble_eq_true rfl) rfl ?_
        first | refine J_inc_10 dX7_seenOf_115 (Nat.le_of_ble_eq_true rfl) rfl ?_ | refine J_iinc_10 dX7_seenOf_115 rfl (Nat.le_of_ble_eq_true rfl) rfl ?_
        refine J_goto (tgt := 35) dX7_seenOf_118 (by decide) ?_
        exact ih (k + 1) _ (some (bg (de D l) e + k)) _ (by omega) (fun a z => by cases z; omega) (by rw [if_pos c.1]; omega) (by rw [← hq]; rfl)
      | some a =>
        have ha := ho a rfl
        have hq : some a = o1 := hq
        refine J_iload_10 dX7_seenOf_35 ?_
        refine J_aload_0 dX7_seenOf_37 ?_
        refine J_get dX7_seenOf_38 fl_X7_19 h0 rfl ?_
        refine J_iload_9 dX7_seenOf_41 ?_
        refine J_iald dX7_seenOf_43 a2 rfl (by omega) (by omega) ?_
        refine J_topi (b := nI (de D l e 2)) (e2) ?_
        refine J_icmp_geN (tgt := 121) dX7_seenOf_44 (by decide) (by omega) (by omega) (fun c => absurd c (by omega)) (fun _ => ?_)
        refine J_aload_0 dX7_seenOf_47 ?_
        refine J_get dX7_seenOf_48 fl_X7_13 h0 rfl ?_
        refine J_iload_9 dX7_seenOf_51 ?_
        refine J_iald dX7_seenOf_53 a0 rfl (by omega) (by omega) ?_
        refine J_topi (b := nI (de D l e 0)) (e0) ?_
        refine J_iload_2 dX7_seenOf_54 ?_
        refine J_icmp_neN (tgt := 74) dX7_seenOf_55 (by decide) (by omega) (by omega) (fun c => absurd c (by omega)) (fun _ => ?_)
        refine J_aload_0 dX7_seenOf_58 ?_
        refine J_iload_9 dX7_seenOf_59 ?_
        refine J_iload_10 dX7_seenOf_61 ?_
        refine J_cV2i dX7_seenOf_63 jmX7_frameOf mv_X7_107 h0 rfl (Nat.le_of_ble_eq_true rfl) (by decide) (m_frameOf p hl he (by omega)) ?_
        refine J_iload_3 dX7_seenOf_66 ?_
        refine J_icmp_neN (tgt := 74) dX7_seenOf_67 (by decide) (by omega) (by omega) (fun c => absurd c (by omega)) (fun _ => ?_)
        refine J_iconst (v := nI 1) dX7_seenOf_70 (by decide) ?_
        refine J_goto (tgt := 75) dX7_seenOf_71 (by decide) ?_
        refine J_istore_11 dX7_seenOf_75 (Nat.le_of_ble_eq_true rfl) rfl ?_
        refine J_iload_5 dX7_seenOf_77 ?_
        refine J_iload_11 dX7_seenOf_79 ?_
        refine J_if_eqN (tgt := 88) dX7_seenOf_81 (by decide) (by omega) (fun c => absurd c (by omega)) (fun _ => ?_)
        refine J_iconst (v := nI 1) dX7_seenOf_84 (by decide) ?_
        refine J_goto (tgt := 89) dX7_seenOf_85 (by decide) ?_
        first | refine J_iaddN dX7_seenOf_89 ?_ | refine J_iadd dX7_seenOf_89 ?_
        refine J_istore_5 dX7_seenOf_90 (Nat.le_of_ble_eq_true rfl) rfl ?_
        refine J_iload_11 dX7_seenOf_92 ?_
        refine J_if_eqN (tgt := 108) dX7_seenOf_94 (by decide) (by omega) (fun c => absurd c (by omega)) (fun _ => ?_)
        refine J_iload_6 dX7_seenOf_97 ?_
        refine J_iconst (v := -1) dX7_seenOf_99 (by decide) ?_
        refine J_icmp_ne (tgt := 108) dX7_seenOf_100 (by decide) (fun _ => ?_) (fun c => absurd c (oN_ne (n := a) ha))
        refine J_iload_6 dX7_seenOf_108 ?_
        refine J_istore_6 dX7_seenOf_110 (Nat.le_of_ble_eq_true rfl) rfl ?_
        first | refine J_inc_7 dX7_seenOf_112 (Nat.le_of_ble_eq_true rfl) rfl ?_ | refine J_iinc_7 dX7_seenOf_112 rfl (Nat.le_of_ble_eq_true rfl) rfl ?_
        first | refine J_inc_10 dX7_seenOf_115 (Nat.le_of_ble_eq_true rfl) rfl ?_ | refine J_iinc_10 dX7_seenOf_115 rfl (Nat.le_of_ble_eq_true rfl) rfl ?_
        refine J_goto (tgt := 35) dX7_seenOf_118 (by decide) ?_
        exact ih (k + 1) _ (some a) _ (by omega) ho (by rw [if_pos c.1]; omega) (by rw [← hq]; rfl)
    · have hs2 : s + (if de D l e 0 = r then cnk (de D l e) f (k + 1) m else 0) = s1 := by
        rw [← hs]
        by_cases d : de D l e 0 = r
        · rw [if_pos d, if_pos d, cnk, if_neg (fun z => c ⟨d, z⟩)]; omega
        · rw [if_neg d, if_neg d]
      have hq2 : frst o (if de D l e 0 = r then (fsk (de D l e) f (k + 1) m).map (fun j => bg (de D l) e + j) else none) = o1 := by
        rw [← hq]
        by_cases d : de D l e 0 = r
        · rw [if_pos d, if_pos d, fsk, if_neg (fun z => c ⟨d, z⟩)]
        · rw [if_neg d, if_neg d]
      by_cases d : de D l e 0 = r
      · have d2 : ¬ fr (de D l e) k = f := fun z => c ⟨d, z⟩
        refine J_iload_10 dX7_seenOf_35 ?_
        refine J_aload_0 dX7_seenOf_37 ?_
        refine J_get dX7_seenOf_38 fl_X7_19 h0 rfl ?_
        refine J_iload_9 dX7_seenOf_41 ?_
        refine J_iald dX7_seenOf_43 a2 rfl (by omega) (by omega) ?_
        refine J_topi (b := nI (de D l e 2)) (e2) ?_
        refine J_icmp_geN (tgt := 121) dX7_seenOf_44 (by decide) (by omega) (by omega) (fun c => absurd c (by omega)) (fun _ => ?_)
        refine J_aload_0 dX7_seenOf_47 ?_
        refine J_get dX7_seenOf_48 fl_X7_13 h0 rfl ?_
        refine J_iload_9 dX7_seenOf_51 ?_
        refine J_iald dX7_seenOf_53 a0 rfl (by omega) (by omega) ?_
        refine J_topi (b := nI (de D l e 0)) (e0) ?_
        refine J_iload_2 dX7_seenOf_54 ?_
        refine J_icmp_neN (tgt := 74) dX7_seenOf_55 (by decide) (by omega) (by omega) (fun c => absurd c (by omega)) (fun _ => ?_)
        refine J_aload_0 dX7_seenOf_58 ?_
        refine J_iload_9 dX7_seenOf_59 ?_
        refine J_iload_10 dX7_seenOf_61 ?_
        refine J_cV2i dX7_seenOf_63 jmX7_frameOf mv_X7_107 h0 rfl (Nat.le_of_ble_eq_true rfl) (by decide) (m_frameOf p hl he (by omega)) ?_
        refine J_iload_3 dX7_seenOf_66 ?_
        refine J_icmp_neN (tgt := 74) dX7_seenOf_67 (by decide) (by omega) (by omega) (fun _ => ?_) (fun c => absurd c (by omega))
        refine J_iconst (v := nI 0) dX7_seenOf_74 (by decide) ?_
        refine J_istore_11 dX7_seenOf_75 (Nat.le_of_ble_eq_true rfl) rfl ?_
        refine J_iload_5 dX7_seenOf_77 ?_
        refine J_iload_11 dX7_seenOf_79 ?_
        refine J_if_eqN (tgt := 88) dX7_seenOf_81 (by decide) (by omega) (fun _ => ?_) (fun c => absurd c (by omega))
        refine J_iconst (v := nI 0) dX7_seenOf_88 (by decide) ?_
        first | refine J_iaddN dX7_seenOf_89 ?_ | refine J_iadd dX7_seenOf_89 ?_
        refine J_istore_5 dX7_seenOf_90 (Nat.le_of_ble_eq_true rfl) rfl ?_
        refine J_iload_11 dX7_seenOf_92 ?_
        refine J_if_eqN (tgt := 108) dX7_seenOf_94 (by decide) (by omega) (fun _ => ?_) (fun c => absurd c (by omega))
        refine J_iload_6 dX7_seenOf_108 ?_
        refine J_istore_6 dX7_seenOf_110 (Nat.le_of_ble_eq_true rfl) rfl ?_
        first | refine J_inc_7 dX7_seenOf_112 (Nat.le_of_ble_eq_true rfl) rfl ?_ | refine J_iinc_7 dX7_seenOf_112 rfl (Nat.le_of_ble_eq_true rfl) rfl ?_
        first | refine J_inc_10 dX7_seenOf_115 (Nat.le_of_ble_eq_true rfl) rfl ?_ | refine J_iinc_10 dX7_seenOf_115 rfl (Nat.le_of_ble_eq_true rfl) rfl ?_
        refine J_goto (tgt := 35) dX7_seenOf_118 (by decide) ?_
        exact ih (k + 1) _ o _ (by omega) ho hs2 hq2
      · refine J_iload_10 dX7_seenOf_35 ?_
        refine J_aload_0 dX7_seenOf_37 ?_
        refine J_get dX7_seenOf_38 fl_X7_19 h0 rfl ?_
        refine J_iload_9 dX7_seenOf_41 ?_
        refine J_iald dX7_seenOf_43 a2 rfl (by omega) (by omega) ?_
        refine J_topi (b := nI (de D l e 2)) (e2) ?_
        refine J_icmp_geN (tgt := 121) dX7_seenOf_44 (by decide) (by omega) (by omega) (fun c => absurd c (by omega)) (fun _ => ?_)
        refine J_aload_0 dX7_seenOf_47 ?_
        refine J_get dX7_seenOf_48 fl_X7_13 h0 rfl ?_
        refine J_iload_9 dX7_seenOf_51 ?_
        refine J_iald dX7_seenOf_53 a0 rfl (by omega) (by omega) ?_
        refine J_topi (b := nI (de D l e 0)) (e0) ?_
        refine J_iload_2 dX7_seenOf_54 ?_
        refine J_icmp_neN (tgt := 74) dX7_seenOf_55 (by decide) (by omega) (by omega) (fun _ => ?_) (fun c => absurd c (by omega))
        refine J_iconst (v := nI 0) dX7_seenOf_74 (by decide) ?_
        refine J_istore_11 dX7_seenOf_75 (Nat.le_of_ble_eq_true rfl) rfl ?_
        refine J_iload_5 dX7_seenOf_77 ?_
        refine J_iload_11 dX7_seenOf_79 ?_
        refine J_if_eqN (tgt := 88) dX7_seenOf_81 (by decide) (by omega) (fun _ => ?_) (fun c => absurd c (by omega))
        refine J_iconst (v := nI 0) dX7_seenOf_88 (by decide) ?_
        first | refine J_iaddN dX7_seenOf_89 ?_ | refine J_iadd dX7_seenOf_89 ?_
        refine J_istore_5 dX7_seenOf_90 (Nat.le_of_ble_eq_true rfl) rfl ?_
        refine J_iload_11 dX7_seenOf_92 ?_
        refine J_if_eqN (tgt := 108) dX7_seenOf_94 (by decide) (by omega) (fun _ => ?_) (fun c => absurd c (by omega))
        refine J_iload_6 dX7_seenOf_108 ?_
        refine J_istore_6 dX7_seenOf_110 (Nat.le_of_ble_eq_true rfl) rfl ?_
        first | refine J_inc_7 dX7_seenOf_112 (Nat.le_of_ble_eq_true rfl) rfl ?_ | refine J_iinc_7 dX7_seenOf_112 rfl (Nat.le_of_ble_eq_true rfl) rfl ?_
        first | refine J_inc_10 dX7_seenOf_115 (Nat.le_of_ble_eq_true rfl) rfl ?_ | refine J_iinc_10 dX7_seenOf_115 rfl (Nat.le_of_ble_eq_true rfl) rfl ?_
        refine J_goto (tgt := 35) dX7_seenOf_118 (by decide) ?_
        exact ih (k + 1) _ o _ (by omega) ho hs2 hq2
theorem l_mseenE (p : mdAt h D tb F) {l r f w : Nat} (hl : l < 2) (hr : r < 6) (hf : f < 300000) (hw : w < 2) : ∀ (k e s : Nat) (o : Option Nat) (o9 o10 o11 : Option Value), lok o9 = true → lok o10 = true → e + k = dn D l → (∀ a, o = some a → a < 2 ^ 31) → s + tms (de D l) r f e k = tms (de D l) r f 0 (dn D l) → frst o (fss (de D l) r f e k) = fss (de D l) r f 0 (dn D l) →
    J X RX7 cX7_seenOf 12 1 (some .int) (fun q h' => q = some (.int (sSeen D l r f w)) ∧ h' = h) 12 [some (.ref 51), some (.int (nI l)), some (.int (nI r)), some (.int (nI f)), some (.int (nI w)), some (.int (nI s)), some (.int (oN o)), some (.int (nI (bg (de D l) e))), some (.int (nI e)), o9, o10, o11] [] h := by
  obtain ⟨h0, ⟨fm, hm, hm0⟩, ⟨a0, a1, a2, a3, a4⟩, hF, -⟩ := id p
  have h8 := p.2.2.2.2.2.2.2.2.2.2.2.2.2.1 l hl
  have hok := fun e he => p.2.2.2.2.2.2.2.2.2.2.2.2.2.2.1 l e hl he
  intro k
  induction k with
  | zero =>
    intro e s o o9 o10 o11 l9 l10 he ho hs hq
    have hs : s = tms (de D l) r f 0 (dn D l) := hs
    have hq : o = fss (de D l) r f 0 (dn D l) := by rw [← hq]; cases o <;> rfl
    refine J_iload_8 dX7_seenOf_12 ?_
    refine J_aload_0 dX7_seenOf_14 ?_
    refine J_get dX7_seenOf_15 fl_X7_7 h0 rfl ?_
    refine J_iload_1 dX7_seenOf_18 ?_
    refine J_iald dX7_seenOf_19 hm rfl (by omega) (by omega) ?_
    refine J_topi (b := nI (dn D l)) (hm0 l hl) ?_
    refine J_icmp_geN (tgt := 127) dX7_seenOf_20 (by decide) (by omega) (by omega) (fun _ => ?_) (fun c => absurd c (by omega))
    refine J_iload_4 dX7_seenOf_127 ?_
    first | refine J_if_neB (tgt := 137) dX7_seenOf_129 (by decide) (fun c129 => ?_) (fun c129 => ?_) | refine J_if_neN (tgt := 137) dX7_seenOf_129 (by decide) (by omega) (fun c129 => ?_) (fun c129 => ?_) | refine J_if_ne (tgt := 137) dX7_seenOf_129 (by decide) (fun c129 => ?_) (fun c129 => ?_)
    · refine J_iload_6 dX7_seenOf_137 ?_
      exact J_iret dX7_seenOf_139 rfl (⟨by unfold sSeen; first | rw [if_pos c129, hs] | rw [if_neg (Nat.ne_of_gt c129), hq], rfl⟩)
    · refine J_iload_5 dX7_seenOf_132 ?_
      refine J_goto (tgt := 139) dX7_seenOf_134 (by decide) ?_
      exact J_iret dX7_seenOf_139 rfl (⟨by unfold sSeen; first | rw [if_pos c129, hs] | rw [if_neg (Nat.ne_of_gt c129), hq], rfl⟩)
  | succ k ih =>
    intro e s o o9 o10 o11 l9 l10 he ho hs hq
    have ok := hok e (by omega)
    have hbl := bg_le2 hok (e + 1) (by omega)
    rw [tms] at hs
    have hq' : frst (frst o (if de D l e 0 = r then (fsk (de D l e) f 0 (de D l e 2)).map (fun j => bg (de D l) e + j) else none)) (fss (de D l) r f (e + 1) k) = fss (de D l) r f 0 (dn D l) := by
      rw [← hq, fss, fsk_fs ok]
      cases o with
      | some a => rfl
      | none =>
        by_cases c : de D l e 0 = r
        · rw [if_pos c, if_pos c]
          cases fs (de D l e) f <;> rfl
        · rw [if_neg c, if_neg c]; rfl
    have hlt : ∀ a, frst o (if de D l e 0 = r then (fsk (de D l e) f 0 (de D l e 2)).map (fun j => bg (de D l) e + j) else none) = some a → a < 2 ^ 31 := by
      intro a z
      cases o with
      | some b => exact ho a z
      | none =>
        by_cases c : de D l e 0 = r
        · rw [if_pos c, fsk_fs ok] at z
          cases hq : fs (de D l e) f with
          | none => rw [hq] at z; cases z
          | some j =>
            rw [hq] at z
            cases z
            have := (fs_lt hq).1
            have hb2 : bg (de D l) e + de D l e 2 ≤ 500 * (e + 1) := hbl
            show bg (de D l) e + j < 2 ^ 31
            omega
        · rw [if_neg c] at z; cases z
    refine J_iload_8 dX7_seenOf_12 ?_
    refine J_aload_0 dX7_seenOf_14 ?_
    refine J_get dX7_seenOf_15 fl_X7_7 h0 rfl ?_
    refine J_iload_1 dX7_seenOf_18 ?_
    refine J_iald dX7_seenOf_19 hm rfl (by omega) (by omega) ?_
    refine J_topi (b := nI (dn D l)) (hm0 l hl) ?_
    refine J_icmp_geN (tgt := 127) dX7_seenOf_20 (by decide) (by omega) (by omega) (fun c => absurd c (by omega)) (fun _ => ?_)
    refine J_bipush (v := nI 8) dX7_seenOf_23 (by decide) ?_
    refine J_iload_1 dX7_seenOf_25 ?_
    first | refine J_imulN dX7_seenOf_26 ?_ | refine J_imul dX7_seenOf_26 ?_
    refine J_iload_8 dX7_seenOf_27 ?_
    first | refine J_iaddN dX7_seenOf_29 ?_ | refine J_iadd dX7_seenOf_29 ?_
    refine J_istore_9 dX7_seenOf_30 (Nat.le_of_ble_eq_true rfl) rfl ?_
    refine J_iconst (v := nI 0) dX7_seenOf_32 (by decide) ?_
    refine J_istore_10 dX7_seenOf_33 (Nat.le_of_ble_eq_true rfl) rfl ?_
    refine l_mseenK p hl (by omega) hr hf (fun o10 o11 l10 => ?_) (de D l e 2) 0 s o _ (by omega) ho rfl rfl
    first | refine J_inc_8 dX7_seenOf_121 (Nat.le_of_ble_eq_true rfl) rfl ?_ | refine J_iinc_8 dX7_seenOf_121 rfl (Nat.le_of_ble_eq_true rfl) rfl ?_
    refine J_goto (tgt := 12) dX7_seenOf_124 (by decide) ?_
    exact ih (e + 1) _ _ _ _ _ rfl l10 (by omega) hlt (by rw [cnk_tm ok]; omega) hq'
theorem m_seenOf (p : mdAt h D tb F) {l r f w : Nat} (hl : l < 2) (hr : r < 6) (hf : f < 300000) (hw : w < 2) : CtI X mX7_seenOf 1 [.ref 51, .int (nI l), .int (nI r), .int (nI f), .int (nI w)] h (sSeen D l r f w) := by
  refine Ct_of jmX7_seenOf [some (.ref 51), some (.int (nI l)), some (.int (nI r)), some (.int (nI f)), some (.int (nI w)), none, none, none, none, none, none, none] (Nat.le_of_ble_eq_true rfl) rfl ?_
  show J X RX7 cX7_seenOf 12 _ (some .int) _ 0 _ _ _
  refine J_iconst (v := nI 0) dX7_seenOf_0 (by decide) ?_
  refine J_istore_5 dX7_seenOf_1 (Nat.le_of_ble_eq_true rfl) rfl ?_
  refine J_iconst (v := -1) dX7_seenOf_3 (by decide) ?_
  refine J_istore_6 dX7_seenOf_4 (Nat.le_of_ble_eq_true rfl) rfl ?_
  refine J_iconst (v := nI 0) dX7_seenOf_6 (by decide) ?_
  refine J_istore_7 dX7_seenOf_7 (Nat.le_of_ble_eq_true rfl) rfl ?_
  refine J_iconst (v := nI 0) dX7_seenOf_9 (by decide) ?_
  refine J_istore_8 dX7_seenOf_10 (Nat.le_of_ble_eq_true rfl) rfl ?_
  exact l_mseenE p hl hr hf hw (dn D l) 0 0 none none none none rfl rfl (by omega) (fun a z => by cases z) (Nat.zero_add _) rfl
theorem m_seen_bad {l r f w : Int32} (hb : ¬ ((∃ j, j < 2 ∧ l = nI j) ∧ (∃ k, k < 6 ∧ r = nI k) ∧ (∃ k, k < 300000 ∧ f = nI k) ∧ ∃ u, u < 2 ∧ w = nI u)) : CtI X mX7_seen 2 [.ref 51, .int l, .int r, .int f, .int w] h (-2) := by
  refine Ct_of jmX7_seen [some (.ref 51), some (.int l), some (.int r), some (.int f), some (.int w)] (Nat.le_of_ble_eq_true rfl) rfl ?_
  show J X RX7 cX7_seen 5 _ (some .int) _ 0 _ _ _
  rcases ix_cases l 2 (by decide) with ⟨j, hj, rfl⟩ | hl
  · rcases ix_cases r 6 (by decide) with ⟨k, hk, rfl⟩ | hr
    · rcases ix_cases f 300000 (by decide) with ⟨k2, hk2, rfl⟩ | hf
      · rcases ix_cases w 2 (by decide) with ⟨u, hu, rfl⟩ | hw
        · exact absurd ⟨⟨j, hj, rfl⟩, ⟨k, hk, rfl⟩, ⟨k2, hk2, rfl⟩, u, hu, rfl⟩ hb
        · refine J_iload_1 dX7_seen_0 ?_
          refine J_cS1i dX7_seen_1 jmX7_isList ms_X7_82 (Nat.le_of_ble_eq_true rfl) (by decide) (m_listT hj) ?_
          refine J_if_eq (tgt := 46) dX7_seen_4 (by decide) (fun c => absurd c (by decide)) (fun _ => ?_)
          refine J_iload_2 dX7_seen_7 ?_
          refine J_cS1i dX7_seen_8 jmX7_isReel ms_X7_74 (Nat.le_of_ble_eq_true rfl) (by decide) (m_reelT hk) ?_
          refine J_if_eq (tgt := 46) dX7_seen_11 (by decide) (fun c => absurd c (by decide)) (fun _ => ?_)
          refine J_iload_3 dX7_seen_14 ?_
          refine J_iconst (v := nI 0) dX7_seen_15 (by decide) ?_
          refine J_ldc dX7_seen_16 kc_X7_124 ?_
          refine J_cS3i dX7_seen_18 jmX7_in ms_X7_69 (Nat.le_of_ble_eq_true rfl) (by decide) (m_inT (by omega) (by omega) (by decide)) ?_
          refine J_if_eq (tgt := 46) dX7_seen_21 (by decide) (fun c => absurd c (by decide)) (fun _ => ?_)
          refine J_iload_4 dX7_seen_24 ?_
          refine J_iconst (v := nI 0) dX7_seen_26 (by decide) ?_
          refine J_iconst (v := nI 1) dX7_seen_27 (by decide) ?_
          refine J_cS3i dX7_seen_28 jmX7_in ms_X7_69 (Nat.le_of_ble_eq_true rfl) (by decide) (m_inB (n := 1) (by decide) hw) ?_
          refine J_if_eq (tgt := 46) dX7_seen_31 (by decide) (fun _ => ?_) (fun c => absurd (by decide) c)
          refine J_bipush (v := -2) dX7_seen_46 (by decide) ?_
          exact J_iret dX7_seen_48 rfl (⟨rfl, rfl⟩)
      · refine J_iload_1 dX7_seen_0 ?_
        refine J_cS1i dX7_seen_1 jmX7_isList ms_X7_82 (Nat.le_of_ble_eq_true rfl) (by decide) (m_listT hj) ?_
        refine J_if_eq (tgt := 46) dX7_seen_4 (by decide) (fun c => absurd c (by decide)) (fun _ => ?_)
        refine J_iload_2 dX7_seen_7 ?_
        refine J_cS1i dX7_seen_8 jmX7_isReel ms_X7_74 (Nat.le_of_ble_eq_true rfl) (by decide) (m_reelT hk) ?_
        refine J_if_eq (tgt := 46) dX7_seen_11 (by decide) (fun c => absurd c (by decide)) (fun _ => ?_)
        refine J_iload_3 dX7_seen_14 ?_
        refine J_iconst (v := nI 0) dX7_seen_15 (by decide) ?_
        refine J_ldc dX7_seen_16 kc_X7_124 ?_
        refine J_cS3i dX7_seen_18 jmX7_in ms_X7_69 (Nat.le_of_ble_eq_true rfl) (by decide) (m_inB (n := 299999) (by decide) hf) ?_
        refine J_if_eq (tgt := 46) dX7_seen_21 (by decide) (fun _ => ?_) (fun c => absurd (by decide) c)
        refine J_bipush (v := -2) dX7_seen_46 (by decide) ?_
        exact J_iret dX7_seen_48 rfl (⟨rfl, rfl⟩)
    · refine J_iload_1 dX7_seen_0 ?_
      refine J_cS1i dX7_seen_1 jmX7_isList ms_X7_82 (Nat.le_of_ble_eq_true rfl) (by decide) (m_listT hj) ?_
      refine J_if_eq (tgt := 46) dX7_seen_4 (by decide) (fun c => absurd c (by decide)) (fun _ => ?_)
      refine J_iload_2 dX7_seen_7 ?_
      refine J_cS1i dX7_seen_8 jmX7_isReel ms_X7_74 (Nat.le_of_ble_eq_true rfl) (by decide) (m_reelF hr) ?_
      refine J_if_eq (tgt := 46) dX7_seen_11 (by decide) (fun _ => ?_) (fun c => absurd (by decide) c)
      refine J_bipush (v := -2) dX7_seen_46 (by decide) ?_
      exact J_iret dX7_seen_48 rfl (⟨rfl, rfl⟩)
  · refine J_iload_1 dX7_seen_0 ?_
    refine J_cS1i dX7_seen_1 jmX7_isList ms_X7_82 (Nat.le_of_ble_eq_true rfl) (by decide) (m_listF hl) ?_
    refine J_if_eq (tgt := 46) dX7_seen_4 (by decide) (fun _ => ?_) (fun c => absurd (by decide) c)
    refine J_bipush (v := -2) dX7_seen_46 (by decide) ?_
    exact J_iret dX7_seen_48 rfl (⟨rfl, rfl⟩)
theorem m_seen_ok (p : mdAt h D tb F) {l r f w : Nat} (hl : l < 2) (hr : r < 6) (hf : f < 300000) (hw : w < 2) : CtI X mX7_seen 2 [.ref 51, .int (nI l), .int (nI r), .int (nI f), .int (nI w)] h (sSeen D l r f w) := by
  have h0 := p.1
  refine Ct_of jmX7_seen [some (.ref 51), some (.int (nI l)), some (.int (nI r)), some (.int (nI f)), some (.int (nI w))] (Nat.le_of_ble_eq_true rfl) rfl ?_
  show J X RX7 cX7_seen 5 _ (some .int) _ 0 _ _ _
  refine J_iload_1 dX7_seen_0 ?_
  refine J_cS1i dX7_seen_1 jmX7_isList ms_X7_82 (Nat.le_of_ble_eq_true rfl) (by decide) (m_listT hl) ?_
  refine J_if_eq (tgt := 46) dX7_seen_4 (by decide) (fun c => absurd c (by decide)) (fun _ => ?_)
  refine J_iload_2 dX7_seen_7 ?_
  refine J_cS1i dX7_seen_8 jmX7_isReel ms_X7_74 (Nat.le_of_ble_eq_true rfl) (by decide) (m_reelT hr) ?_
  refine J_if_eq (tgt := 46) dX7_seen_11 (by decide) (fun c => absurd c (by decide)) (fun _ => ?_)
  refine J_iload_3 dX7_seen_14 ?_
  refine J_iconst (v := nI 0) dX7_seen_15 (by decide) ?_
  refine J_ldc dX7_seen_16 kc_X7_124 ?_
  refine J_cS3i dX7_seen_18 jmX7_in ms_X7_69 (Nat.le_of_ble_eq_true rfl) (by decide) (m_inT (by omega) (by omega) (by decide)) ?_
  refine J_if_eq (tgt := 46) dX7_seen_21 (by decide) (fun c => absurd c (by decide)) (fun _ => ?_)
  refine J_iload_4 dX7_seen_24 ?_
  refine J_iconst (v := nI 0) dX7_seen_26 (by decide) ?_
  refine J_iconst (v := nI 1) dX7_seen_27 (by decide) ?_
  refine J_cS3i dX7_seen_28 jmX7_in ms_X7_69 (Nat.le_of_ble_eq_true rfl) (by decide) (m_inT (by omega) (by omega) (by decide)) ?_
  refine J_if_eq (tgt := 46) dX7_seen_31 (by decide) (fun c => absurd c (by decide)) (fun _ => ?_)
  refine J_aload_0 dX7_seen_34 ?_
  refine J_iload_1 dX7_seen_35 ?_
  refine J_iload_2 dX7_seen_36 ?_
  refine J_iload_3 dX7_seen_37 ?_
  refine J_iload_4 dX7_seen_38 ?_
  refine J_cV4i dX7_seen_40 jmX7_seenOf mv_X7_125 h0 rfl (Nat.le_of_ble_eq_true rfl) (by decide) (m_seenOf p hl hr hf hw) ?_
  refine J_goto (tgt := 48) dX7_seen_43 (by decide) ?_
  exact J_iret dX7_seen_48 rfl (⟨rfl, rfl⟩)
end
