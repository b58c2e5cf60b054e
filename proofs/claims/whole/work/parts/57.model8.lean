section
variable {X : Cx} {h : HF} {D : DS} {tb : Int32} {F : Nat → Nat → Int32}
theorem md_item (p : mdAt h D tb F) {s i : Nat} {x : Int32} {f4 : Nat → Int32} (hs : s < 4) (hi : i < 60) (b4 : ∀ s j, s < 4 → j < 60 → f4 (60 * s + j) = (dsh D s).2.2.2 j) : mdAt (hu h 69 (oA 0 240 (upd f4 (60 * s + i) x))) (dSH D s ((dsh D s).1, (dsh D s).2.1, (dsh D s).2.2.1, upd (dsh D s).2.2.2 i x)) tb F := by
  obtain ⟨f70, a70⟩ := m_70 p
  obtain ⟨h0, -, -, -, -, -, ⟨⟨f1, a1, b1⟩, ⟨f2, a2, b2⟩, ⟨f3, a3, b3⟩, ⟨f4', a4, -⟩⟩, -⟩ := id p
  refine md_sheet p (m_shk p hs) (fun b hb => hu_ne (by omega)) ⟨f70, hAt_ne a70 (by omega)⟩ ?_
  have dh : ∀ j, dsh (dSH D s ((dsh D s).1, (dsh D s).2.1, (dsh D s).2.2.1, upd (dsh D s).2.2.2 i x)) j = if j = s then ((dsh D s).1, (dsh D s).2.1, (dsh D s).2.2.1, upd (dsh D s).2.2.2 i x) else dsh D j := fun j => rfl
  refine ⟨⟨f1, hAt_ne a1 (by omega), fun j hj => ?_⟩, ⟨f2, hAt_ne a2 (by omega), fun j hj => ?_⟩, ⟨f3, hAt_ne a3 (by omega), fun j hj => ?_⟩, ⟨_, hAt_s a4.1, fun j k hj hk => ?_⟩⟩
  · rw [dh j]; by_cases z : j = s; (subst z; rw [if_pos rfl]; exact b1 j hj); (rw [if_neg z]; exact b1 j hj)
  · rw [dh j]; by_cases z : j = s; (subst z; rw [if_pos rfl]; exact b2 j hj); (rw [if_neg z]; exact b2 j hj)
  · rw [dh j]; by_cases z : j = s; (subst z; rw [if_pos rfl]; exact b3 j hj); (rw [if_neg z]; exact b3 j hj)
  · rw [dh j]
    by_cases z : j = s
    · rw [if_pos z, z]
      show upd f4 (60 * s + i) x (60 * s + k) = upd (dsh D s).2.2.2 i x k
      unfold upd
      by_cases y : k = i
      · rw [if_pos y, if_pos (by omega)]
      · rw [if_neg y, if_neg (by omega)]; exact b4 s k hs hk
    · rw [if_neg z]
      unfold upd
      rw [if_neg (by omega)]
      exact b4 j k hj hk
theorem m_keep (p : mdAt h D tb F) {s i : Nat} {v : Int32} (hs : s < 4) (hi : i < 60) : Ct X mX7_keep 0 [.ref 51, .int (nI s), .int (nI i), .int v] h (fun r h' => r = none ∧ mdAt h' (dSH D s ((dsh D s).1, (dsh D s).2.1, (dsh D s).2.2.1, upd (dsh D s).2.2.2 i (nar (dsh D s).2.1 v))) tb F ∧ offB h h' 69 70) := by
  obtain ⟨h0, -, -, -, -, -, ⟨-, ⟨f2, a2, b2⟩, -, ⟨f4, a4, b4⟩⟩, -⟩ := id p
  have hk := m_shk p hs
  have fin : ∀ x, x = nar (dsh D s).2.1 v → mdAt (hu h 69 (oA 0 240 (upd f4 (60 * s + i) x))) (dSH D s ((dsh D s).1, (dsh D s).2.1, (dsh D s).2.2.1, upd (dsh D s).2.2.2 i (nar (dsh D s).2.1 v))) tb F := by
    rintro x rfl
    exact md_item p hs hi b4
  refine Ct_of jmX7_keep [some (.ref 51), some (.int (nI s)), some (.int (nI i)), some (.int v)] (Nat.le_of_ble_eq_true rfl) rfl ?_
  show J X RX7 cX7_keep 4 _ none _ 0 _ _ _
  refine J_aload_0 dX7_keep_0 ?_
  refine J_get dX7_keep_1 fl_X7_62 h0 rfl ?_
  refine J_bipush (v := nI 60) dX7_keep_4 (by decide) ?_
  refine J_iload_1 dX7_keep_6 ?_
  first | refine J_imulN dX7_keep_7 ?_ | refine J_imul dX7_keep_7 ?_
  refine J_iload_2 dX7_keep_8 ?_
  first | refine J_iaddN dX7_keep_9 ?_ | refine J_iadd dX7_keep_9 ?_
  refine J_aload_0 dX7_keep_10 ?_
  refine J_get dX7_keep_11 fl_X7_56 h0 rfl ?_
  refine J_iload_1 dX7_keep_14 ?_
  refine J_iald dX7_keep_15 a2 rfl (by omega) (by omega) ?_
  refine J_topi (b := nI (dsh D s).2.1) (b2 s hs) ?_
  first | refine J_if_neB (tgt := 24) dX7_keep_16 (by decide) (fun c16 => ?_) (fun c16 => ?_) | refine J_if_neN (tgt := 24) dX7_keep_16 (by decide) (by omega) (fun c16 => ?_) (fun c16 => ?_) | refine J_if_ne (tgt := 24) dX7_keep_16 (by decide) (fun c16 => ?_) (fun c16 => ?_)
  · refine J_aload_0 dX7_keep_24 ?_
    refine J_get dX7_keep_25 fl_X7_56 h0 rfl ?_
    refine J_iload_1 dX7_keep_28 ?_
    refine J_iald dX7_keep_29 a2 rfl (by omega) (by omega) ?_
    refine J_topi (b := nI (dsh D s).2.1) (b2 s hs) ?_
    refine J_iconst (v := nI 1) dX7_keep_30 (by decide) ?_
    first | refine J_icmp_neN (tgt := 39) dX7_keep_31 (by decide) (by omega) (by omega) (fun c31 => ?_) (fun c31 => ?_) | refine J_icmp_ne (tgt := 39) dX7_keep_31 (by decide) (fun c31 => ?_) (fun c31 => ?_)
    · refine J_iload_3 dX7_keep_39 ?_
      refine J_iast dX7_keep_40 a4 rfl (by omega) (by omega) ?_
      exact J_vret dX7_keep_41 rfl (⟨rfl, fin _ (by unfold nar; first | rw [if_pos c16] | rw [if_neg (Nat.ne_of_gt c16), if_pos c31] | rw [if_neg (Nat.ne_of_gt c16), if_neg c31]), offB.rf.hu (by omega) (by omega)⟩)
    · refine J_iload_3 dX7_keep_34 ?_
      refine J_i2s dX7_keep_35 ?_
      refine J_goto (tgt := 40) dX7_keep_36 (by decide) ?_
      refine J_iast dX7_keep_40 a4 rfl (by omega) (by omega) ?_
      exact J_vret dX7_keep_41 rfl (⟨rfl, fin _ (by unfold nar; first | rw [if_pos c16] | rw [if_neg (Nat.ne_of_gt c16), if_pos c31] | rw [if_neg (Nat.ne_of_gt c16), if_neg c31]), offB.rf.hu (by omega) (by omega)⟩)
  · refine J_iload_3 dX7_keep_19 ?_
    refine J_i2b dX7_keep_20 ?_
    refine J_goto (tgt := 40) dX7_keep_21 (by decide) ?_
    refine J_iast dX7_keep_40 a4 rfl (by omega) (by omega) ?_
    exact J_vret dX7_keep_41 rfl (⟨rfl, fin _ (by unfold nar; first | rw [if_pos c16] | rw [if_neg (Nat.ne_of_gt c16), if_pos c31] | rw [if_neg (Nat.ne_of_gt c16), if_neg c31]), offB.rf.hu (by omega) (by omega)⟩)
theorem m_put_bad {s f i v : Int32} (hb : ¬ ((∃ k, k < 4 ∧ s = nI k) ∧ ∃ u, u < 3 ∧ f = nI u)) : CtI X mX7_put 2 [.ref 51, .int s, .int f, .int i, .int v] h (-2) := by
  refine Ct_of jmX7_put [some (.ref 51), some (.int s), some (.int f), some (.int i), some (.int v), none] (Nat.le_of_ble_eq_true rfl) rfl ?_
  show J X RX7 cX7_put 6 _ (some .int) _ 0 _ _ _
  rcases ix_cases s 4 (by decide) with ⟨k, hk, rfl⟩ | hs
  · rcases ix_cases f 3 (by decide) with ⟨u, hu, rfl⟩ | hf
    · exact absurd ⟨⟨k, hk, rfl⟩, u, hu, rfl⟩ hb
    · refine J_iload_1 dX7_put_0 ?_
      refine J_cS1i dX7_put_1 jmX7_isSheet ms_X7_100 (Nat.le_of_ble_eq_true rfl) (by decide) (m_sheetT hk) ?_
      refine J_if_eq (tgt := 16) dX7_put_4 (by decide) (fun c => absurd c (by decide)) (fun _ => ?_)
      refine J_iload_2 dX7_put_7 ?_
      refine J_iconst (v := nI 0) dX7_put_8 (by decide) ?_
      refine J_iconst (v := nI 2) dX7_put_9 (by decide) ?_
      refine J_cS3i dX7_put_10 jmX7_in ms_X7_69 (Nat.le_of_ble_eq_true rfl) (by decide) (m_inB (n := 2) (by decide) hf) ?_
      refine J_if_ne (tgt := 19) dX7_put_13 (by decide) (fun c => absurd c (by decide)) (fun _ => ?_)
      refine J_bipush (v := -2) dX7_put_16 (by decide) ?_
      exact J_iret dX7_put_18 rfl (⟨rfl, rfl⟩)
  · refine J_iload_1 dX7_put_0 ?_
    refine J_cS1i dX7_put_1 jmX7_isSheet ms_X7_100 (Nat.le_of_ble_eq_true rfl) (by decide) (m_sheetF hs) ?_
    refine J_if_eq (tgt := 16) dX7_put_4 (by decide) (fun _ => ?_) (fun c => absurd (by decide) c)
    refine J_bipush (v := -2) dX7_put_16 (by decide) ?_
    exact J_iret dX7_put_18 rfl (⟨rfl, rfl⟩)
theorem m_put_f (p : mdAt h D tb F) {s f : Nat} {i v : Int32} (hs : s < 4) (hf : f < 3) (hq : 0 < sFault D s f i) : Ct X mX7_put 2 [.ref 51, .int (nI s), .int (nI f), .int i, .int v] h (fun r h' => r = some (.int (fnd (sFault D s f i))) ∧ moAt h' (dSF D (sFault D s f i)) ∧ offB h h' 51 71) := by
  have h0 := p.1
  have hle := sFault_le D s f i
  refine Ct_of jmX7_put [some (.ref 51), some (.int (nI s)), some (.int (nI f)), some (.int i), some (.int v), none] (Nat.le_of_ble_eq_true rfl) rfl ?_
  show J X RX7 cX7_put 6 _ (some .int) _ 0 _ _ _
  refine J_iload_1 dX7_put_0 ?_
  refine J_cS1i dX7_put_1 jmX7_isSheet ms_X7_100 (Nat.le_of_ble_eq_true rfl) (by decide) (m_sheetT hs) ?_
  refine J_if_eq (tgt := 16) dX7_put_4 (by decide) (fun c => absurd c (by decide)) (fun _ => ?_)
  refine J_iload_2 dX7_put_7 ?_
  refine J_iconst (v := nI 0) dX7_put_8 (by decide) ?_
  refine J_iconst (v := nI 2) dX7_put_9 (by decide) ?_
  refine J_cS3i dX7_put_10 jmX7_in ms_X7_69 (Nat.le_of_ble_eq_true rfl) (by decide) (m_inT (by omega) (by omega) (by decide)) ?_
  refine J_if_ne (tgt := 19) dX7_put_13 (by decide) (fun _ => ?_) (fun c => absurd c (by decide))
  refine J_aload_0 dX7_put_19 ?_
  refine J_iload_1 dX7_put_20 ?_
  refine J_iload_2 dX7_put_21 ?_
  refine J_iload_3 dX7_put_22 ?_
  refine J_cV3i dX7_put_23 jmX7_lacks mv_X7_231 h0 rfl (Nat.le_of_ble_eq_true rfl) (by decide) (m_lacks p hs hf) ?_
  refine J_istore_5 dX7_put_26 (Nat.le_of_ble_eq_true rfl) rfl ?_
  refine J_iload_5 dX7_put_28 ?_
  refine J_if_leN (tgt := 40) dX7_put_30 (by decide) (by omega) (fun c => absurd c (by omega)) (fun _ => ?_)
  refine J_aload_0 dX7_put_33 ?_
  refine J_iload_5 dX7_put_34 ?_
  refine J_cV1 dX7_put_36 jmX7_meets mv_X7_103 h0 rfl (Nat.le_of_ble_eq_true rfl) (by decide) (m_meets p) (fun r h' q => ?_)
  obtain ⟨rfl, rfl⟩ := q
  exact J_iret dX7_put_39 rfl (⟨rfl, ⟨_, _, md_find p (by omega)⟩, offB.rf.hu (by omega) (by omega)⟩)
theorem m_put_ok (p : mdAt h D tb F) {s f j : Nat} {v : Int32} (hs : s < 4) (hf : f < 3) (hq : sFault D s f (nI j) = 0) (hj : j < (dsh D s).2.2.1) : Ct X mX7_put 2 [.ref 51, .int (nI s), .int (nI f), .int (nI j), .int v] h (fun r h' => r = some (.int 1) ∧ moAt h' (dSH D s ((dsh D s).1, (dsh D s).2.1, (dsh D s).2.2.1, upd (dsh D s).2.2.2 j (nar (dsh D s).2.1 v))) ∧ offB h h' 51 71) := by
  have h0 := p.1
  have hk := m_shk p hs
  have hl := m_lacks (X := X) p hs hf (i := nI j)
  rw [hq] at hl
  refine Ct_of jmX7_put [some (.ref 51), some (.int (nI s)), some (.int (nI f)), some (.int (nI j)), some (.int v), none] (Nat.le_of_ble_eq_true rfl) rfl ?_
  show J X RX7 cX7_put 6 _ (some .int) _ 0 _ _ _
  refine J_iload_1 dX7_put_0 ?_
  refine J_cS1i dX7_put_1 jmX7_isSheet ms_X7_100 (Nat.le_of_ble_eq_true rfl) (by decide) (m_sheetT hs) ?_
  refine J_if_eq (tgt := 16) dX7_put_4 (by decide) (fun c => absurd c (by decide)) (fun _ => ?_)
  refine J_iload_2 dX7_put_7 ?_
  refine J_iconst (v := nI 0) dX7_put_8 (by decide) ?_
  refine J_iconst (v := nI 2) dX7_put_9 (by decide) ?_
  refine J_cS3i dX7_put_10 jmX7_in ms_X7_69 (Nat.le_of_ble_eq_true rfl) (by decide) (m_inT (by omega) (by omega) (by decide)) ?_
  refine J_if_ne (tgt := 19) dX7_put_13 (by decide) (fun _ => ?_) (fun c => absurd c (by decide))
  refine J_aload_0 dX7_put_19 ?_
  refine J_iload_1 dX7_put_20 ?_
  refine J_iload_2 dX7_put_21 ?_
  refine J_iload_3 dX7_put_22 ?_
  refine J_cV3i dX7_put_23 jmX7_lacks mv_X7_231 h0 rfl (Nat.le_of_ble_eq_true rfl) (by decide) (hl) ?_
  refine J_istore_5 dX7_put_26 (Nat.le_of_ble_eq_true rfl) rfl ?_
  refine J_iload_5 dX7_put_28 ?_
  refine J_if_le (tgt := 40) dX7_put_30 (by decide) (fun _ => ?_) (fun c => absurd (by decide) c)
  refine J_aload_0 dX7_put_40 ?_
  refine J_iload_1 dX7_put_41 ?_
  refine J_iload_3 dX7_put_42 ?_
  refine J_iload_4 dX7_put_43 ?_
  refine J_cV3 dX7_put_45 jmX7_keep mv_X7_234 h0 rfl (Nat.le_of_ble_eq_true rfl) (by decide) (m_keep p hs (i := j) (by omega)) (fun r h' q => ?_)
  obtain ⟨rfl, q1, q2⟩ := q
  refine J_iconst (v := nI 1) dX7_put_48 (by decide) ?_
  exact J_iret dX7_put_49 rfl (⟨rfl, ⟨_, _, q1⟩, q2.wide (by omega) (by omega)⟩)
theorem m_get_bad {s f i : Int32} (hb : ¬ ((∃ k, k < 4 ∧ s = nI k) ∧ ∃ u, u < 3 ∧ f = nI u)) : CtI X mX7_get 2 [.ref 51, .int s, .int f, .int i] h (-2147483648) := by
  refine Ct_of jmX7_get [some (.ref 51), some (.int s), some (.int f), some (.int i), none] (Nat.le_of_ble_eq_true rfl) rfl ?_
  show J X RX7 cX7_get 5 _ (some .int) _ 0 _ _ _
  rcases ix_cases s 4 (by decide) with ⟨k, hk, rfl⟩ | hs
  · rcases ix_cases f 3 (by decide) with ⟨u, hu, rfl⟩ | hf
    · exact absurd ⟨⟨k, hk, rfl⟩, u, hu, rfl⟩ hb
    · refine J_iload_1 dX7_get_0 ?_
      refine J_cS1i dX7_get_1 jmX7_isSheet ms_X7_100 (Nat.le_of_ble_eq_true rfl) (by decide) (m_sheetT hk) ?_
      refine J_if_eq (tgt := 16) dX7_get_4 (by decide) (fun c => absurd c (by decide)) (fun _ => ?_)
      refine J_iload_2 dX7_get_7 ?_
      refine J_iconst (v := nI 0) dX7_get_8 (by decide) ?_
      refine J_iconst (v := nI 2) dX7_get_9 (by decide) ?_
      refine J_cS3i dX7_get_10 jmX7_in ms_X7_69 (Nat.le_of_ble_eq_true rfl) (by decide) (m_inB (n := 2) (by decide) hf) ?_
      refine J_if_ne (tgt := 19) dX7_get_13 (by decide) (fun c => absurd c (by decide)) (fun _ => ?_)
      refine J_ldc dX7_get_16 kc_X7_238 ?_
      exact J_iret dX7_get_18 rfl (⟨rfl, rfl⟩)
  · refine J_iload_1 dX7_get_0 ?_
    refine J_cS1i dX7_get_1 jmX7_isSheet ms_X7_100 (Nat.le_of_ble_eq_true rfl) (by decide) (m_sheetF hs) ?_
    refine J_if_eq (tgt := 16) dX7_get_4 (by decide) (fun _ => ?_) (fun c => absurd (by decide) c)
    refine J_ldc dX7_get_16 kc_X7_238 ?_
    exact J_iret dX7_get_18 rfl (⟨rfl, rfl⟩)
theorem m_get_f (p : mdAt h D tb F) {s f : Nat} {i : Int32} (hs : s < 4) (hf : f < 3) (hq : 0 < sFault D s f i) : Ct X mX7_get 2 [.ref 51, .int (nI s), .int (nI f), .int i] h (fun r h' => r = some (.int (-2147483648)) ∧ moAt h' (dSF D (sFault D s f i)) ∧ offB h h' 51 71) := by
  have h0 := p.1
  have hle := sFault_le D s f i
  refine Ct_of jmX7_get [some (.ref 51), some (.int (nI s)), some (.int (nI f)), some (.int i), none] (Nat.le_of_ble_eq_true rfl) rfl ?_
  show J X RX7 cX7_get 5 _ (some .int) _ 0 _ _ _
  refine J_iload_1 dX7_get_0 ?_
  refine J_cS1i dX7_get_1 jmX7_isSheet ms_X7_100 (Nat.le_of_ble_eq_true rfl) (by decide) (m_sheetT hs) ?_
  refine J_if_eq (tgt := 16) dX7_get_4 (by decide) (fun c => absurd c (by decide)) (fun _ => ?_)
  refine J_iload_2 dX7_get_7 ?_
  refine J_iconst (v := nI 0) dX7_get_8 (by decide) ?_
  refine J_iconst (v := nI 2) dX7_get_9 (by decide) ?_
  refine J_cS3i dX7_get_10 jmX7_in ms_X7_69 (Nat.le_of_ble_eq_true rfl) (by decide) (m_inT (by omega) (by omega) (by decide)) ?_
  refine J_if_ne (tgt := 19) dX7_get_13 (by decide) (fun _ => ?_) (fun c => absurd c (by decide))
  refine J_aload_0 dX7_get_19 ?_
  refine J_iload_1 dX7_get_20 ?_
  refine J_iload_2 dX7_get_21 ?_
  refine J_iload_3 dX7_get_22 ?_
  refine J_cV3i dX7_get_23 jmX7_lacks mv_X7_231 h0 rfl (Nat.le_of_ble_eq_true rfl) (by decide) (m_lacks p hs hf) ?_
  refine J_istore_4 dX7_get_26 (Nat.le_of_ble_eq_true rfl) rfl ?_
  refine J_iload_4 dX7_get_28 ?_
  refine J_if_leN (tgt := 42) dX7_get_30 (by decide) (by omega) (fun c => absurd c (by omega)) (fun _ => ?_)
  refine J_aload_0 dX7_get_33 ?_
  refine J_iload_4 dX7_get_34 ?_
  refine J_put dX7_get_36 fp_X7_228 h0 (Nat.le_of_ble_eq_true rfl) rfl rfl ?_
  refine J_ldc dX7_get_39 kc_X7_238 ?_
  exact J_iret dX7_get_41 rfl (⟨rfl, ⟨_, _, md_find p (by omega)⟩, offB.rf.hu (by omega) (by omega)⟩)
theorem m_get_ok (p : mdAt h D tb F) {s f j : Nat} (hs : s < 4) (hf : f < 3) (hq : sFault D s f (nI j) = 0) (hj : j < (dsh D s).2.2.1) : CtI X mX7_get 2 [.ref 51, .int (nI s), .int (nI f), .int (nI j)] h ((dsh D s).2.2.2 j) := by
  obtain ⟨h0, -, -, -, -, -, ⟨-, -, -, ⟨f4, a4, b4⟩⟩, -⟩ := id p
  have hk := m_shk p hs
  have hl := m_lacks (X := X) p hs hf (i := nI j)
  rw [hq] at hl
  rw [← b4 s j hs (by omega)]
  refine Ct_of jmX7_get [some (.ref 51), some (.int (nI s)), some (.int (nI f)), some (.int (nI j)), none] (Nat.le_of_ble_eq_true rfl) rfl ?_
  show J X RX7 cX7_get 5 _ (some .int) _ 0 _ _ _
  refine J_iload_1 dX7_get_0 ?_
  refine J_cS1i dX7_get_1 jmX7_isSheet ms_X7_100 (Nat.le_of_ble_eq_true rfl) (by decide) (m_sheetT hs) ?_
  refine J_if_eq (tgt := 16) dX7_get_4 (by decide) (fun c => absurd c (by decide)) (fun _ => ?_)
  refine J_iload_2 dX7_get_7 ?_
  refine J_iconst (v := nI 0) dX7_get_8 (by decide) ?_
  refine J_iconst (v := nI 2) dX7_get_9 (by decide) ?_
  refine J_cS3i dX7_get_10 jmX7_in ms_X7_69 (Nat.le_of_ble_eq_true rfl) (by decide) (m_inT (by omega) (by omega) (by decide)) ?_
  refine J_if_ne (tgt := 19) dX7_get_13 (by decide) (fun _ => ?_) (fun c => absurd c (by decide))
  refine J_aload_0 dX7_get_19 ?_
  refine J_iload_1 dX7_get_20 ?_
  refine J_iload_2 dX7_get_21 ?_
  refine J_iload_3 dX7_get_22 ?_
  refine J_cV3i dX7_get_23 jmX7_lacks mv_X7_231 h0 rfl (Nat.le_of_ble_eq_true rfl) (by decide) (hl) ?_
  refine J_istore_4 dX7_get_26 (Nat.le_of_ble_eq_true rfl) rfl ?_
  refine J_iload_4 dX7_get_28 ?_
  refine J_if_le (tgt := 42) dX7_get_30 (by decide) (fun _ => ?_) (fun c => absurd (by decide) c)
  refine J_aload_0 dX7_get_42 ?_
  refine J_get dX7_get_43 fl_X7_62 h0 rfl ?_
  refine J_bipush (v := nI 60) dX7_get_46 (by decide) ?_
  refine J_iload_1 dX7_get_48 ?_
  first | refine J_imulN dX7_get_49 ?_ | refine J_imul dX7_get_49 ?_
  refine J_iload_3 dX7_get_50 ?_
  first | refine J_iaddN dX7_get_51 ?_ | refine J_iadd dX7_get_51 ?_
  refine J_iald dX7_get_52 a4 rfl (by omega) (by omega) ?_
  exact J_iret dX7_get_53 rfl (⟨rfl, rfl⟩)
theorem m_copy_bad {s i t j m : Int32} (hb : ¬ ((∃ k, k < 4 ∧ s = nI k) ∧ ∃ u, u < 4 ∧ t = nI u)) : CtI X mX7_copy 2 [.ref 51, .int s, .int i, .int t, .int j, .int m] h (-2) := by
  refine Ct_of jmX7_copy [some (.ref 51), some (.int s), some (.int i), some (.int t), some (.int j), some (.int m), none] (Nat.le_of_ble_eq_true rfl) rfl ?_
  show J X RX7 cX7_copy 7 _ (some .int) _ 0 _ _ _
  rcases ix_cases s 4 (by decide) with ⟨k, hk, rfl⟩ | hs
  · rcases ix_cases t 4 (by decide) with ⟨u, hu, rfl⟩ | hf
    · exact absurd ⟨⟨k, hk, rfl⟩, u, hu, rfl⟩ hb
    · refine J_iload_1 dX7_copy_0 ?_
      refine J_cS1i dX7_copy_1 jmX7_isSheet ms_X7_100 (Nat.le_of_ble_eq_true rfl) (by decide) (m_sheetT hk) ?_
      refine J_if_eq (tgt := 14) dX7_copy_4 (by decide) (fun c => absurd c (by decide)) (fun _ => ?_)
      refine J_iload_3 dX7_copy_7 ?_
      refine J_cS1i dX7_copy_8 jmX7_isSheet ms_X7_100 (Nat.le_of_ble_eq_true rfl) (by decide) (m_sheetF hf) ?_
      refine J_if_ne (tgt := 17) dX7_copy_11 (by decide) (fun c => absurd c (by decide)) (fun _ => ?_)
      refine J_bipush (v := -2) dX7_copy_14 (by decide) ?_
      exact J_iret dX7_copy_16 rfl (⟨rfl, rfl⟩)
  · refine J_iload_1 dX7_copy_0 ?_
    refine J_cS1i dX7_copy_1 jmX7_isSheet ms_X7_100 (Nat.le_of_ble_eq_true rfl) (by decide) (m_sheetF hs) ?_
    refine J_if_eq (tgt := 14) dX7_copy_4 (by decide) (fun _ => ?_) (fun c => absurd (by decide) c)
    refine J_bipush (v := -2) dX7_copy_14 (by decide) ?_
    exact J_iret dX7_copy_16 rfl (⟨rfl, rfl⟩)
theorem l64 {a b : Nat} (ha : a < 2 ^ 31) (hb : b < 2 ^ 31) : ((nI a).toInt64 + (nI b).toInt64).toInt = (a : Int) + b := by
  rw [Int64.toInt_add, Int32.toInt_toInt64, Int32.toInt_toInt64, nI_toInt ha, nI_toInt hb]
  unfold Int.bmod
  simp only
  split <;> omega
theorem l64c {a b c : Nat} (ha : a < 2 ^ 31) (hb : b < 2 ^ 31) (hc : c < 2 ^ 31) : 0 < lg_cmp ((nI a).toInt64 + (nI b).toInt64) (nI c).toInt64 ↔ c < a + b := by
  rw [lg_cmp_gt, Int64.lt_iff_toInt_lt, l64 ha hb, Int32.toInt_toInt64, nI_toInt hc]
  omega
theorem l64d {a b c : Nat} (ha : a < 2 ^ 31) (hb : b < 2 ^ 31) (hc : c < 2 ^ 31) : lg_cmp ((nI a).toInt64 + (nI b).toInt64) (nI c).toInt64 ≤ 0 ↔ a + b ≤ c := by
  rw [lg_cmp_le, Int64.le_iff_toInt_le, l64 ha hb, Int32.toInt_toInt64, nI_toInt hc]
  omega
theorem m_copy_f (p : mdAt h D tb F) {s t q : Nat} {i j m : Int32} (hs : s < 4) (ht : t < 4) (hq : (q = 1 ∧ ((dsh D s).1 = true ∨ (dsh D t).1 = true)) ∨ ((dsh D s).1 = false ∧ (dsh D t).1 = false ∧ ((q = 4 ∧ ¬ (dsh D s).2.1 = (dsh D t).2.1) ∨ (q = 2 ∧ (dsh D s).2.1 = (dsh D t).2.1 ∧ ((¬ ∃ a b, i = nI a ∧ m = nI b ∧ a + b ≤ (dsh D s).2.2.1) ∨ (¬ ∃ a b, j = nI a ∧ m = nI b ∧ a + b ≤ (dsh D t).2.2.1)))))) : Ct X mX7_copy 2 [.ref 51, .int (nI s), .int i, .int (nI t), .int j, .int m] h (fun r h' => r = some (.int (fnd q)) ∧ moAt h' (dSF D q) ∧ offB h h' 51 71) := by
  obtain ⟨h0, -, -, -, -, -, ⟨⟨f1, a1, b1⟩, ⟨f2, a2, b2⟩, ⟨f3, a3, b3⟩, -⟩, -⟩ := id p
  have ks := m_shk p hs
  have kt := m_shk p ht
  have e1 := b1 s hs
  have e2 := b1 t ht
  refine Ct_of jmX7_copy [some (.ref 51), some (.int (nI s)), some (.int i), some (.int (nI t)), some (.int j), some (.int m), none] (Nat.le_of_ble_eq_true rfl) rfl ?_
  show J X RX7 cX7_copy 7 _ (some .int) _ 0 _ _ _
  rcases hq with ⟨rfl, hl⟩ | ⟨l1, l2, hr⟩
  · by_cases l1 : (dsh D s).1 = true
    · rw [if_pos l1] at e1
      refine J_iload_1 dX7_copy_0 ?_
      refine J_cS1i dX7_copy_1 jmX7_isSheet ms_X7_100 (Nat.le_of_ble_eq_true rfl) (by decide) (m_sheetT hs) ?_
      refine J_if_eq (tgt := 14) dX7_copy_4 (by decide) (fun c => absurd c (by decide)) (fun _ => ?_)
      refine J_iload_3 dX7_copy_7 ?_
      refine J_cS1i dX7_copy_8 jmX7_isSheet ms_X7_100 (Nat.le_of_ble_eq_true rfl) (by decide) (m_sheetT ht) ?_
      refine J_if_ne (tgt := 17) dX7_copy_11 (by decide) (fun _ => ?_) (fun c => absurd c (by decide))
      refine J_aload_0 dX7_copy_17 ?_
      refine J_get dX7_copy_18 fl_X7_52 h0 rfl ?_
      refine J_iload_1 dX7_copy_21 ?_
      refine J_zald dX7_copy_22 a1 rfl (by omega) (by omega) ?_
      refine J_topi (b := 0) (e1) ?_
      refine J_if_eq (tgt := 35) dX7_copy_23 (by decide) (fun _ => ?_) (fun c => absurd rfl c)
      refine J_aload_0 dX7_copy_35 ?_
      refine J_iconst (v := nI 1) dX7_copy_36 (by decide) ?_
      refine J_cV1 dX7_copy_37 jmX7_meets mv_X7_103 h0 rfl (Nat.le_of_ble_eq_true rfl) (by decide) (m_meets p) (fun r h' q => ?_)
      obtain ⟨rfl, rfl⟩ := q
      exact J_iret dX7_copy_40 rfl (⟨rfl, ⟨_, _, md_find p (by decide)⟩, offB.rf.hu (by omega) (by omega)⟩)
    · have l2 : (dsh D t).1 = true := hl.elim (fun z => absurd z l1) id
      rw [if_neg l1] at e1
      rw [if_pos l2] at e2
      refine J_iload_1 dX7_copy_0 ?_
      refine J_cS1i dX7_copy_1 jmX7_isSheet ms_X7_100 (Nat.le_of_ble_eq_true rfl) (by decide) (m_sheetT hs) ?_
      refine J_if_eq (tgt := 14) dX7_copy_4 (by decide) (fun c => absurd c (by decide)) (fun _ => ?_)
      refine J_iload_3 dX7_copy_7 ?_
      refine J_cS1i dX7_copy_8 jmX7_isSheet ms_X7_100 (Nat.le_of_ble_eq_true rfl) (by decide) (m_sheetT ht) ?_
      refine J_if_ne (tgt := 17) dX7_copy_11 (by decide) (fun _ => ?_) (fun c => absurd c (by decide))
      refine J_aload_0 dX7_copy_17 ?_
      refine J_get dX7_copy_18 fl_X7_52 h0 rfl ?_
      refine J_iload_1 dX7_copy_21 ?_
      refine J_zald dX7_copy_22 a1 rfl (by omega) (by omega) ?_
      refine J_topi (b := 1) (e1) ?_
      refine J_if_eq (tgt := 35) dX7_copy_23 (by decide) (fun c => absurd c (by decide)) (fun _ => ?_)
      refine J_aload_0 dX7_copy_26 ?_
      refine J_get dX7_copy_27 fl_X7_52 h0 rfl ?_
      refine J_iload_3 dX7_copy_30 ?_
      refine J_zald dX7_copy_31 a1 rfl (by omega) (by omega) ?_
      refine J_topi (b := 0) (e2) ?_
      refine J_if_ne (tgt := 41) dX7_copy_32 (by decide) (fun c => absurd c (by decide)) (fun _ => ?_)
      refine J_aload_0 dX7_copy_35 ?_
      refine J_iconst (v := nI 1) dX7_copy_36 (by decide) ?_
      refine J_cV1 dX7_copy_37 jmX7_meets mv_X7_103 h0 rfl (Nat.le_of_ble_eq_true rfl) (by decide) (m_meets p) (fun r h' q => ?_)
      obtain ⟨rfl, rfl⟩ := q
      exact J_iret dX7_copy_40 rfl (⟨rfl, ⟨_, _, md_find p (by decide)⟩, offB.rf.hu (by omega) (by omega)⟩)
  · rw [if_neg (by rw [l1]; decide)] at e1
    rw [if_neg (by rw [l2]; decide)] at e2
    rcases hr with ⟨rfl, hf⟩ | ⟨rfl, hf, hx⟩
    · refine J_iload_1 dX7_copy_0 ?_
      refine J_cS1i dX7_copy_1 jmX7_isSheet ms_X7_100 (Nat.le_of_ble_eq_true rfl) (by decide) (m_sheetT hs) ?_
      refine J_if_eq (tgt := 14) dX7_copy_4 (by decide) (fun c => absurd c (by decide)) (fun _ => ?_)
      refine J_iload_3 dX7_copy_7 ?_
      refine J_cS1i dX7_copy_8 jmX7_isSheet ms_X7_100 (Nat.le_of_ble_eq_true rfl) (by decide) (m_sheetT ht) ?_
      refine J_if_ne (tgt := 17) dX7_copy_11 (by decide) (fun _ => ?_) (fun c => absurd c (by decide))
      refine J_aload_0 dX7_copy_17 ?_
      refine J_get dX7_copy_18 fl_X7_52 h0 rfl ?_
      refine J_iload_1 dX7_copy_21 ?_
      refine J_zald dX7_copy_22 a1 rfl (by omega) (by omega) ?_
      refine J_topi (b := 1) (e1) ?_
      refine J_if_eq (tgt := 35) dX7_copy_23 (by decide) (fun c => absurd c (by decide)) (fun _ => ?_)
      refine J_aload_0 dX7_copy_26 ?_
      refine J_get dX7_copy_27 fl_X7_52 h0 rfl ?_
      refine J_iload_3 dX7_copy_30 ?_
      refine J_zald dX7_copy_31 a1 rfl (by omega) (by omega) ?_
      refine J_topi (b := 1) (e2) ?_
      refine J_if_ne (tgt := 41) dX7_copy_32 (by decide) (fun _ => ?_) (fun c => absurd c (by decide))
      refine J_aload_0 dX7_copy_41 ?_
      refine J_get dX7_copy_42 fl_X7_56 h0 rfl ?_
      refine J_iload_1 dX7_copy_45 ?_
      refine J_iald dX7_copy_46 a2 rfl (by omega) (by omega) ?_
      refine J_topi (b := nI (dsh D s).2.1) (b2 s hs) ?_
      refine J_aload_0 dX7_copy_47 ?_
      refine J_get dX7_copy_48 fl_X7_56 h0 rfl ?_
      refine J_iload_3 dX7_copy_51 ?_
      refine J_iald dX7_copy_52 a2 rfl (by omega) (by omega) ?_
      refine J_topi (b := nI (dsh D t).2.1) (b2 t ht) ?_
      refine J_icmp_eqN (tgt := 62) dX7_copy_53 (by decide) (by omega) (by omega) (fun c => absurd c hf) (fun _ => ?_)
      refine J_aload_0 dX7_copy_56 ?_
      refine J_iconst (v := nI 4) dX7_copy_57 (by decide) ?_
      refine J_cV1 dX7_copy_58 jmX7_meets mv_X7_103 h0 rfl (Nat.le_of_ble_eq_true rfl) (by decide) (m_meets p) (fun r h' q => ?_)
      obtain ⟨rfl, rfl⟩ := q
      exact J_iret dX7_copy_61 rfl (⟨rfl, ⟨_, _, md_find p (by decide)⟩, offB.rf.hu (by omega) (by omega)⟩)
    · have to62 : J X RX7 cX7_copy 7 2 (some .int) (fun r h' => r = some (.int (fnd 2)) ∧ moAt h' (dSF D 2) ∧ offB h h' 51 71) 62 [some (.ref 51), some (.int (nI s)), some (.int i), some (.int (nI t)), some (.int j), some (.int m), none] [] h := by
        have no : J X RX7 cX7_copy 7 2 (some .int) (fun r h' => r = some (.int (fnd 2)) ∧ moAt h' (dSF D 2) ∧ offB h h' 51 71) 111 [some (.ref 51), some (.int (nI s)), some (.int i), some (.int (nI t)), some (.int j), some (.int m), none] [] h := by
          refine J_aload_0 dX7_copy_111 ?_
          refine J_iconst (v := nI 2) dX7_copy_112 (by decide) ?_
          refine J_cV1 dX7_copy_113 jmX7_meets mv_X7_103 h0 rfl (Nat.le_of_ble_eq_true rfl) (by decide) (m_meets p) (fun r h' q => ?_)
          obtain ⟨rfl, rfl⟩ := q
          exact J_iret dX7_copy_116 rfl (⟨rfl, ⟨_, _, md_find p (by decide)⟩, offB.rf.hu (by omega) (by omega)⟩)
        by_cases i0 : i < 0
        · refine J_iload_2 dX7_copy_62 ?_
          refine J_if_lt (tgt := 111) dX7_copy_63 (by decide) (fun _ => ?_) (fun c => absurd i0 c)
          exact no
        · by_cases j0 : j < 0
          · refine J_iload_2 dX7_copy_62 ?_
            refine J_if_lt (tgt := 111) dX7_copy_63 (by decide) (fun c => absurd c i0) (fun _ => ?_)
            refine J_iload_4 dX7_copy_66 ?_
            refine J_if_lt (tgt := 111) dX7_copy_68 (by decide) (fun _ => ?_) (fun c => absurd j0 c)
            exact no
          · by_cases m0 : m < 0
            · refine J_iload_2 dX7_copy_62 ?_
              refine J_if_lt (tgt := 111) dX7_copy_63 (by decide) (fun c => absurd c i0) (fun _ => ?_)
              refine J_iload_4 dX7_copy_66 ?_
              refine J_if_lt (tgt := 111) dX7_copy_68 (by decide) (fun c => absurd c j0) (fun _ => ?_)
              refine J_iload_5 dX7_copy_71 ?_
              refine J_if_lt (tgt := 111) dX7_copy_73 (by decide) (fun _ => ?_) (fun c => absurd m0 c)
              exact no
            · obtain ⟨ii, hii, rfl⟩ := nI_of i0
              obtain ⟨jj, hjj, rfl⟩ := nI_of j0
              obtain ⟨mm, hmm, rfl⟩ := nI_of m0
              by_cases g1 : ii + mm ≤ (dsh D s).2.2.1
              · by_cases g2 : jj + mm ≤ (dsh D t).2.2.1
                · exact absurd hx (fun z => z.elim (fun y => y ⟨ii, mm, rfl, rfl, g1⟩) (fun y => y ⟨jj, mm, rfl, rfl, g2⟩))
                · refine J_iload_2 dX7_copy_62 ?_
                  refine J_if_lt (tgt := 111) dX7_copy_63 (by decide) (fun c => absurd c i0) (fun _ => ?_)
                  refine J_iload_4 dX7_copy_66 ?_
                  refine J_if_lt (tgt := 111) dX7_copy_68 (by decide) (fun c => absurd c j0) (fun _ => ?_)
                  refine J_iload_5 dX7_copy_71 ?_
                  refine J_if_lt (tgt := 111) dX7_copy_73 (by decide) (fun c => absurd c m0) (fun _ => ?_)
                  refine J_iload_2 dX7_copy_76 ?_
                  refine J_i2l dX7_copy_77 ?_
                  refine J_iload_5 dX7_copy_78 ?_
                  refine J_i2l dX7_copy_80 ?_
                  refine J_ladd dX7_copy_81 ?_
                  refine J_aload_0 dX7_copy_82 ?_
                  refine J_get dX7_copy_83 fl_X7_59 h0 rfl ?_
                  refine J_iload_1 dX7_copy_86 ?_
                  refine J_iald dX7_copy_87 a3 rfl (by omega) (by omega) ?_
                  refine J_topi (b := nI (dsh D s).2.2.1) (b3 s hs) ?_
                  refine J_i2l dX7_copy_88 ?_
                  refine J_lcmp dX7_copy_89 ?_
                  refine J_if_gt (tgt := 111) dX7_copy_90 (by decide) (fun c => absurd c (fun z => absurd ((l64c hii hmm (by omega)).mp z) (by omega))) (fun _ => ?_)
                  refine J_iload_4 dX7_copy_93 ?_
                  refine J_i2l dX7_copy_95 ?_
                  refine J_iload_5 dX7_copy_96 ?_
                  refine J_i2l dX7_copy_98 ?_
                  refine J_ladd dX7_copy_99 ?_
                  refine J_aload_0 dX7_copy_100 ?_
                  refine J_get dX7_copy_101 fl_X7_59 h0 rfl ?_
                  refine J_iload_3 dX7_copy_104 ?_
                  refine J_iald dX7_copy_105 a3 rfl (by omega) (by omega) ?_
                  refine J_topi (b := nI (dsh D t).2.2.1) (b3 t ht) ?_
                  refine J_i2l dX7_copy_106 ?_
                  refine J_lcmp dX7_copy_107 ?_
                  refine J_if_le (tgt := 117) dX7_copy_108 (by decide) (fun c => absurd c (fun z => g2 ((l64d hjj hmm (by omega)).mp z))) (fun _ => ?_)
                  exact no
              · refine J_iload_2 dX7_copy_62 ?_
                refine J_if_lt (tgt := 111) dX7_copy_63 (by decide) (fun c => absurd c i0) (fun _ => ?_)
                refine J_iload_4 dX7_copy_66 ?_
                refine J_if_lt (tgt := 111) dX7_copy_68 (by decide) (fun c => absurd c j0) (fun _ => ?_)
                refine J_iload_5 dX7_copy_71 ?_
                refine J_if_lt (tgt := 111) dX7_copy_73 (by decide) (fun c => absurd c m0) (fun _ => ?_)
                refine J_iload_2 dX7_copy_76 ?_
                refine J_i2l dX7_copy_77 ?_
                refine J_iload_5 dX7_copy_78 ?_
                refine J_i2l dX7_copy_80 ?_
                refine J_ladd dX7_copy_81 ?_
                refine J_aload_0 dX7_copy_82 ?_
                refine J_get dX7_copy_83 fl_X7_59 h0 rfl ?_
                refine J_iload_1 dX7_copy_86 ?_
                refine J_iald dX7_copy_87 a3 rfl (by omega) (by omega) ?_
                refine J_topi (b := nI (dsh D s).2.2.1) (b3 s hs) ?_
                refine J_i2l dX7_copy_88 ?_
                refine J_lcmp dX7_copy_89 ?_
                refine J_if_gt (tgt := 111) dX7_copy_90 (by decide) (fun _ => ?_) (fun c => absurd ((l64c hii hmm (by omega)).mpr (by omega)) c)
                exact no
      refine J_iload_1 dX7_copy_0 ?_
      refine J_cS1i dX7_copy_1 jmX7_isSheet ms_X7_100 (Nat.le_of_ble_eq_true rfl) (by decide) (m_sheetT hs) ?_
      refine J_if_eq (tgt := 14) dX7_copy_4 (by decide) (fun c => absurd c (by decide)) (fun _ => ?_)
      refine J_iload_3 dX7_copy_7 ?_
      refine J_cS1i dX7_copy_8 jmX7_isSheet ms_X7_100 (Nat.le_of_ble_eq_true rfl) (by decide) (m_sheetT ht) ?_
      refine J_if_ne (tgt := 17) dX7_copy_11 (by decide) (fun _ => ?_) (fun c => absurd c (by decide))
      refine J_aload_0 dX7_copy_17 ?_
      refine J_get dX7_copy_18 fl_X7_52 h0 rfl ?_
      refine J_iload_1 dX7_copy_21 ?_
      refine J_zald dX7_copy_22 a1 rfl (by omega) (by omega) ?_
      refine J_topi (b := 1) (e1) ?_
      refine J_if_eq (tgt := 35) dX7_copy_23 (by decide) (fun c => absurd c (by decide)) (fun _ => ?_)
      refine J_aload_0 dX7_copy_26 ?_
      refine J_get dX7_copy_27 fl_X7_52 h0 rfl ?_
      refine J_iload_3 dX7_copy_30 ?_
      refine J_zald dX7_copy_31 a1 rfl (by omega) (by omega) ?_
      refine J_topi (b := 1) (e2) ?_
      refine J_if_ne (tgt := 41) dX7_copy_32 (by decide) (fun _ => ?_) (fun c => absurd c (by decide))
      refine J_aload_0 dX7_copy_41 ?_
      refine J_get dX7_copy_42 fl_X7_56 h0 rfl ?_
      refine J_iload_1 dX7_copy_45 ?_
      refine J_iald dX7_copy_46 a2 rfl (by omega) (by omega) ?_
      refine J_topi (b := nI (dsh D s).2.1) (b2 s hs) ?_
      refine J_aload_0 dX7_copy_47 ?_
      refine J_get dX7_copy_48 fl_X7_56 h0 rfl ?_
      refine J_iload_3 dX7_copy_51 ?_
      refine J_iald dX7_copy_52 a2 rfl (by omega) (by omega) ?_
      refine J_topi (b := nI (dsh D t).2.1) (b2 t ht) ?_
      refine J_icmp_eqN (tgt := 62) dX7_copy_53 (by decide) (by omega) (by omega) (fun _ => ?_) (fun c => absurd c (fun z => z hf))
      exact to62
end
