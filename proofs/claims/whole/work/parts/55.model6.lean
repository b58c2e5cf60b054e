section
variable {X : Cx} {h : HF} {D : DS} {tb : Int32} {F : Nat → Nat → Int32}
theorem m_aSec (p : mdAt h D tb F) : CtI X mX7_aSecond 0 [.ref 51] h (nI (rt (dst D 0))) := by
  obtain ⟨h0, -, -, -, ⟨fs, hfs, hfs0⟩, -, -, -, k1, -⟩ := id p
  refine Ct_of jmX7_aSecond [some (.ref 51)] (Nat.le_of_ble_eq_true rfl) rfl ?_
  show J X RX7 cX7_aSecond 1 _ (some .int) _ 0 _ _ _
  refine J_aload_0 dX7_aSecond_0 ?_
  refine J_get dX7_aSecond_1 fl_X7_28 h0 rfl ?_
  refine J_iconst (v := nI 0) dX7_aSecond_4 (by decide) ?_
  refine J_iald dX7_aSecond_5 hfs rfl (by omega) (by omega) ?_
  refine J_topi (b := nI (dst D 0)) (hfs0 0 (by decide)) ?_
  refine J_iconst (v := nI 2) dX7_aSecond_6 (by decide) ?_
  first | refine J_icmp_neN (tgt := 15) dX7_aSecond_7 (by decide) (by omega) (by omega) (fun c7 => ?_) (fun c7 => ?_) | refine J_icmp_ne (tgt := 15) dX7_aSecond_7 (by decide) (fun c7 => ?_) (fun c7 => ?_)
  · refine J_bipush (v := nI 30) dX7_aSecond_15 (by decide) ?_
    exact J_iret dX7_aSecond_17 rfl (⟨by unfold rt; first | rw [if_pos c7] | rw [if_neg c7], rfl⟩)
  · refine J_bipush (v := nI 25) dX7_aSecond_10 (by decide) ?_
    refine J_goto (tgt := 17) dX7_aSecond_12 (by decide) ?_
    exact J_iret dX7_aSecond_17 rfl (⟨by unfold rt; first | rw [if_pos c7] | rw [if_neg c7], rfl⟩)
theorem lob2 (f : Nat) : 18 * (f / 17982) + (if f % 17982 < 2 then 0 else 2 * ((f % 17982 - 2) / 1798)) = lob f := by
  unfold lob
  split <;> split <;> omega
theorem m_numbered (p : mdAt h D tb F) {f : Nat} (hf : f < 10000000) : CtI X mX7_numbered 0 [.ref 51, .int (nI f)] h (nI (tno f (dst D 0))) := by
  obtain ⟨h0, -, -, -, ⟨fs, hfs, hfs0⟩, -, -, -, k1, -⟩ := id p
  have key : ∀ z : Nat, z = lob f → J X RX7 cX7_numbered 4 0 (some .int) (fun r h' => r = some (.int (nI (tno f (dst D 0)))) ∧ h' = h) 33 [some (.ref 51), some (.int (nI f)), some (.int (nI (f % 17982))), none] [.int (nI z)] h := by
    rintro z rfl
    refine J_istore_3 dX7_numbered_33 (Nat.le_of_ble_eq_true rfl) rfl ?_
    refine J_aload_0 dX7_numbered_34 ?_
    refine J_get dX7_numbered_35 fl_X7_28 h0 rfl ?_
    refine J_iconst (v := nI 0) dX7_numbered_38 (by decide) ?_
    refine J_iald dX7_numbered_39 hfs rfl (by omega) (by omega) ?_
    refine J_topi (b := nI (dst D 0)) (hfs0 0 (by decide)) ?_
    first | refine J_if_neB (tgt := 49) dX7_numbered_40 (by decide) (fun c40 => ?_) (fun c40 => ?_) | refine J_if_neN (tgt := 49) dX7_numbered_40 (by decide) (by omega) (fun c40 => ?_) (fun c40 => ?_) | refine J_if_ne (tgt := 49) dX7_numbered_40 (by decide) (fun c40 => ?_) (fun c40 => ?_)
    · refine J_iload_1 dX7_numbered_49 ?_
      exact J_iret dX7_numbered_50 rfl (⟨by unfold tno; first | rw [if_pos c40] | rw [if_neg (Nat.ne_of_gt c40)], rfl⟩)
    · refine J_iload_1 dX7_numbered_43 ?_
      refine J_iload_3 dX7_numbered_44 ?_
      first | refine J_iaddN dX7_numbered_45 ?_ | refine J_iadd dX7_numbered_45 ?_
      refine J_goto (tgt := 50) dX7_numbered_46 (by decide) ?_
      exact J_iret dX7_numbered_50 rfl (⟨by unfold tno; first | rw [if_pos c40] | rw [if_neg (Nat.ne_of_gt c40)], rfl⟩)
  refine Ct_of jmX7_numbered [some (.ref 51), some (.int (nI f)), none, none] (Nat.le_of_ble_eq_true rfl) rfl ?_
  show J X RX7 cX7_numbered 4 _ (some .int) _ 0 _ _ _
  refine J_iload_1 dX7_numbered_0 ?_
  refine J_sipush (v := nI 17982) dX7_numbered_1 (by decide) ?_
  refine J_iremN dX7_numbered_4 (by omega) (by omega) (by omega) ?_
  refine J_istore_2 dX7_numbered_5 (Nat.le_of_ble_eq_true rfl) rfl ?_
  refine J_bipush (v := nI 18) dX7_numbered_6 (by decide) ?_
  refine J_iload_1 dX7_numbered_8 ?_
  refine J_sipush (v := nI 17982) dX7_numbered_9 (by decide) ?_
  refine J_idivN dX7_numbered_12 (by omega) (by omega) (by omega) ?_
  first | refine J_imulN dX7_numbered_13 ?_ | refine J_imul dX7_numbered_13 ?_
  refine J_iload_2 dX7_numbered_14 ?_
  refine J_iconst (v := nI 2) dX7_numbered_15 (by decide) ?_
  first | refine J_icmp_geN (tgt := 23) dX7_numbered_16 (by decide) (by omega) (by omega) (fun c16 => ?_) (fun c16 => ?_) | refine J_icmp_ge (tgt := 23) dX7_numbered_16 (by decide) (fun c16 => ?_) (fun c16 => ?_)
  · refine J_iconst (v := nI 2) dX7_numbered_23 (by decide) ?_
    refine J_iload_2 dX7_numbered_24 ?_
    refine J_iconst (v := nI 2) dX7_numbered_25 (by decide) ?_
    first | refine J_isubN dX7_numbered_26 (by omega) ?_ | refine J_isub dX7_numbered_26 ?_
    refine J_sipush (v := nI 1798) dX7_numbered_27 (by decide) ?_
    refine J_idivN dX7_numbered_30 (by omega) (by omega) (by omega) ?_
    first | refine J_imulN dX7_numbered_31 ?_ | refine J_imul dX7_numbered_31 ?_
    first | refine J_iaddN dX7_numbered_32 ?_ | refine J_iadd dX7_numbered_32 ?_
    exact key _ (by rw [← lob2 f]; first | rw [if_pos c16] | rw [if_neg (Nat.not_lt.mpr c16)])
  · refine J_iconst (v := nI 0) dX7_numbered_19 (by decide) ?_
    refine J_goto (tgt := 32) dX7_numbered_20 (by decide) ?_
    first | refine J_iaddN dX7_numbered_32 ?_ | refine J_iadd dX7_numbered_32 ?_
    exact key _ (by rw [← lob2 f]; first | rw [if_pos c16] | rw [if_neg (Nat.not_lt.mpr c16)])
theorem m_toldOf (p : mdAt h D tb F) {f w : Nat} (hf : f < 10000000) (hw : w < 4) : CtI X mX7_toldOf 1 [.ref 51, .int (nI f), .int (nI w)] h (nI (toldN f (dst D 0) w)) := by
  have h0 := p.1
  have hr := @rt_v (dst D 0)
  have hl := lob_le hf
  have hq : tno f (dst D 0) ≤ 10100000 := by unfold tno; split <;> omega
  have hd : tno f (dst D 0) / rt (dst D 0) ≤ tno f (dst D 0) := Nat.div_le_self _ _
  refine Ct_of jmX7_toldOf [some (.ref 51), some (.int (nI f)), some (.int (nI w)), none, none] (Nat.le_of_ble_eq_true rfl) rfl ?_
  show J X RX7 cX7_toldOf 5 _ (some .int) _ 0 _ _ _
  refine J_aload_0 dX7_toldOf_0 ?_
  refine J_iload_1 dX7_toldOf_1 ?_
  refine J_cV1i dX7_toldOf_2 jmX7_numbered mv_X7_132 h0 rfl (Nat.le_of_ble_eq_true rfl) (by decide) (m_numbered p hf) ?_
  refine J_istore_3 dX7_toldOf_5 (Nat.le_of_ble_eq_true rfl) rfl ?_
  refine J_aload_0 dX7_toldOf_6 ?_
  refine J_cV0i dX7_toldOf_7 jmX7_aSecond mv_X7_135 h0 rfl (Nat.le_of_ble_eq_true rfl) (by decide) (m_aSec p) ?_
  refine J_istore_4 dX7_toldOf_10 (Nat.le_of_ble_eq_true rfl) rfl ?_
  refine J_iload_2 dX7_toldOf_12 ?_
  first | refine J_if_neB (tgt := 27) dX7_toldOf_13 (by decide) (fun c13 => ?_) (fun c13 => ?_) | refine J_if_neN (tgt := 27) dX7_toldOf_13 (by decide) (by omega) (fun c13 => ?_) (fun c13 => ?_) | refine J_if_ne (tgt := 27) dX7_toldOf_13 (by decide) (fun c13 => ?_) (fun c13 => ?_)
  · refine J_iload_2 dX7_toldOf_27 ?_
    refine J_iconst (v := nI 1) dX7_toldOf_28 (by decide) ?_
    first | refine J_icmp_neN (tgt := 45) dX7_toldOf_29 (by decide) (by omega) (by omega) (fun c29 => ?_) (fun c29 => ?_) | refine J_icmp_ne (tgt := 45) dX7_toldOf_29 (by decide) (fun c29 => ?_) (fun c29 => ?_)
    · refine J_iload_2 dX7_toldOf_45 ?_
      refine J_iconst (v := nI 2) dX7_toldOf_46 (by decide) ?_
      first | refine J_icmp_neN (tgt := 60) dX7_toldOf_47 (by decide) (by omega) (by omega) (fun c47 => ?_) (fun c47 => ?_) | refine J_icmp_ne (tgt := 60) dX7_toldOf_47 (by decide) (fun c47 => ?_) (fun c47 => ?_)
      · refine J_iload_3 dX7_toldOf_60 ?_
        refine J_iload_4 dX7_toldOf_61 ?_
        refine J_iremN dX7_toldOf_63 (by omega) (by omega) (by omega) ?_
        exact J_iret dX7_toldOf_64 rfl (⟨by unfold toldN; first | rw [if_pos c13] | rw [if_neg (Nat.ne_of_gt c13), if_pos c29] | rw [if_neg (Nat.ne_of_gt c13), if_neg c29, if_pos c47] | rw [if_neg (Nat.ne_of_gt c13), if_neg c29, if_neg c47], rfl⟩)
      · refine J_iload_3 dX7_toldOf_50 ?_
        refine J_iload_4 dX7_toldOf_51 ?_
        refine J_idivN dX7_toldOf_53 (by omega) (by omega) (by omega) ?_
        refine J_bipush (v := nI 60) dX7_toldOf_54 (by decide) ?_
        refine J_iremN dX7_toldOf_56 (by omega) (by omega) (by omega) ?_
        refine J_goto (tgt := 64) dX7_toldOf_57 (by decide) ?_
        exact J_iret dX7_toldOf_64 rfl (⟨by unfold toldN; first | rw [if_pos c13] | rw [if_neg (Nat.ne_of_gt c13), if_pos c29] | rw [if_neg (Nat.ne_of_gt c13), if_neg c29, if_pos c47] | rw [if_neg (Nat.ne_of_gt c13), if_neg c29, if_neg c47], rfl⟩)
    · refine J_iload_3 dX7_toldOf_32 ?_
      refine J_iload_4 dX7_toldOf_33 ?_
      refine J_idivN dX7_toldOf_35 (by omega) (by omega) (by omega) ?_
      refine J_bipush (v := nI 60) dX7_toldOf_36 (by decide) ?_
      refine J_idivN dX7_toldOf_38 (by omega) (by omega) (by omega) ?_
      refine J_bipush (v := nI 60) dX7_toldOf_39 (by decide) ?_
      refine J_iremN dX7_toldOf_41 (by omega) (by omega) (by omega) ?_
      refine J_goto (tgt := 64) dX7_toldOf_42 (by decide) ?_
      exact J_iret dX7_toldOf_64 rfl (⟨by unfold toldN; first | rw [if_pos c13] | rw [if_neg (Nat.ne_of_gt c13), if_pos c29] | rw [if_neg (Nat.ne_of_gt c13), if_neg c29, if_pos c47] | rw [if_neg (Nat.ne_of_gt c13), if_neg c29, if_neg c47], rfl⟩)
  · refine J_iload_3 dX7_toldOf_16 ?_
    refine J_iload_4 dX7_toldOf_17 ?_
    refine J_idivN dX7_toldOf_19 (by omega) (by omega) (by omega) ?_
    refine J_sipush (v := nI 3600) dX7_toldOf_20 (by decide) ?_
    refine J_idivN dX7_toldOf_23 (by omega) (by omega) (by omega) ?_
    refine J_goto (tgt := 64) dX7_toldOf_24 (by decide) ?_
    exact J_iret dX7_toldOf_64 rfl (⟨by unfold toldN; first | rw [if_pos c13] | rw [if_neg (Nat.ne_of_gt c13), if_pos c29] | rw [if_neg (Nat.ne_of_gt c13), if_neg c29, if_pos c47] | rw [if_neg (Nat.ne_of_gt c13), if_neg c29, if_neg c47], rfl⟩)
theorem m_told_bad {f w : Int32} (hb : ¬ ((∃ k, k < 10000000 ∧ f = nI k) ∧ ∃ u, u < 4 ∧ w = nI u)) : CtI X mX7_told 2 [.ref 51, .int f, .int w] h (-2) := by
  refine Ct_of jmX7_told [some (.ref 51), some (.int f), some (.int w)] (Nat.le_of_ble_eq_true rfl) rfl ?_
  show J X RX7 cX7_told 3 _ (some .int) _ 0 _ _ _
  rcases ix_cases f 10000000 (by decide) with ⟨k, hk, rfl⟩ | hf
  · rcases ix_cases w 4 (by decide) with ⟨u, hu, rfl⟩ | hw
    · exact absurd ⟨⟨k, hk, rfl⟩, u, hu, rfl⟩ hb
    · refine J_iload_1 dX7_told_0 ?_
      refine J_iconst (v := nI 0) dX7_told_1 (by decide) ?_
      refine J_ldc dX7_told_2 kc_X7_139 ?_
      refine J_cS3i dX7_told_4 jmX7_in ms_X7_69 (Nat.le_of_ble_eq_true rfl) (by decide) (m_inT (by omega) (by omega) (by decide)) ?_
      refine J_if_eq (tgt := 28) dX7_told_7 (by decide) (fun c => absurd c (by decide)) (fun _ => ?_)
      refine J_iload_2 dX7_told_10 ?_
      refine J_iconst (v := nI 0) dX7_told_11 (by decide) ?_
      refine J_iconst (v := nI 3) dX7_told_12 (by decide) ?_
      refine J_cS3i dX7_told_13 jmX7_in ms_X7_69 (Nat.le_of_ble_eq_true rfl) (by decide) (m_inB (n := 3) (by decide) hw) ?_
      refine J_if_eq (tgt := 28) dX7_told_16 (by decide) (fun _ => ?_) (fun c => absurd (by decide) c)
      refine J_bipush (v := -2) dX7_told_28 (by decide) ?_
      exact J_iret dX7_told_30 rfl (⟨rfl, rfl⟩)
  · refine J_iload_1 dX7_told_0 ?_
    refine J_iconst (v := nI 0) dX7_told_1 (by decide) ?_
    refine J_ldc dX7_told_2 kc_X7_139 ?_
    refine J_cS3i dX7_told_4 jmX7_in ms_X7_69 (Nat.le_of_ble_eq_true rfl) (by decide) (m_inB (n := 9999999) (by decide) hf) ?_
    refine J_if_eq (tgt := 28) dX7_told_7 (by decide) (fun _ => ?_) (fun c => absurd (by decide) c)
    refine J_bipush (v := -2) dX7_told_28 (by decide) ?_
    exact J_iret dX7_told_30 rfl (⟨rfl, rfl⟩)
theorem m_told_ok (p : mdAt h D tb F) {f w : Nat} (hf : f < 10000000) (hw : w < 4) : CtI X mX7_told 2 [.ref 51, .int (nI f), .int (nI w)] h (nI (toldN f (dst D 0) w)) := by
  have h0 := p.1
  refine Ct_of jmX7_told [some (.ref 51), some (.int (nI f)), some (.int (nI w))] (Nat.le_of_ble_eq_true rfl) rfl ?_
  show J X RX7 cX7_told 3 _ (some .int) _ 0 _ _ _
  refine J_iload_1 dX7_told_0 ?_
  refine J_iconst (v := nI 0) dX7_told_1 (by decide) ?_
  refine J_ldc dX7_told_2 kc_X7_139 ?_
  refine J_cS3i dX7_told_4 jmX7_in ms_X7_69 (Nat.le_of_ble_eq_true rfl) (by decide) (m_inT (by omega) (by omega) (by decide)) ?_
  refine J_if_eq (tgt := 28) dX7_told_7 (by decide) (fun c => absurd c (by decide)) (fun _ => ?_)
  refine J_iload_2 dX7_told_10 ?_
  refine J_iconst (v := nI 0) dX7_told_11 (by decide) ?_
  refine J_iconst (v := nI 3) dX7_told_12 (by decide) ?_
  refine J_cS3i dX7_told_13 jmX7_in ms_X7_69 (Nat.le_of_ble_eq_true rfl) (by decide) (m_inT (by omega) (by omega) (by decide)) ?_
  refine J_if_eq (tgt := 28) dX7_told_16 (by decide) (fun c => absurd c (by decide)) (fun _ => ?_)
  refine J_aload_0 dX7_told_19 ?_
  refine J_iload_1 dX7_told_20 ?_
  refine J_iload_2 dX7_told_21 ?_
  refine J_cV2i dX7_told_22 jmX7_toldOf mv_X7_140 h0 rfl (Nat.le_of_ble_eq_true rfl) (by decide) (m_toldOf p hf hw) ?_
  refine J_goto (tgt := 30) dX7_told_25 (by decide) ?_
  exact J_iret dX7_told_30 rfl (⟨rfl, rfl⟩)
theorem m_numOf (p : mdAt h D tb F) {a b c d : Nat} (ha : a < 100) (hb : b < 60) (hc : c < 60) (hd : d < 30) : CtI X mX7_numberOf 1 [.ref 51, .int (nI a), .int (nI b), .int (nI c), .int (nI d)] h (sNum D a b c d) := by
  obtain ⟨h0, -, -, -, ⟨fs, hfs, hfs0⟩, -, -, -, k1, -⟩ := id p
  have hr := @rt_v (dst D 0)
  have hm : (60 * (60 * a + b) + c) * rt (dst D 0) ≤ 360000 * 30 := Nat.mul_le_mul (by omega) (by omega)
  have hl : (60 * (60 * a + b) + c) * 25 ≤ (60 * (60 * a + b) + c) * rt (dst D 0) := Nat.mul_le_mul_left _ (by omega)
  have e1 : 60 * (60 * a + b) + c = (a * 60 + b) * 60 + c := by omega
  have e2 : 60 * a + b = a * 60 + b := by omega
  refine Ct_of jmX7_numberOf [some (.ref 51), some (.int (nI a)), some (.int (nI b)), some (.int (nI c)), some (.int (nI d)), none, none] (Nat.le_of_ble_eq_true rfl) rfl ?_
  show J X RX7 cX7_numberOf 7 _ (some .int) _ 0 _ _ _
  refine J_bipush (v := nI 60) dX7_numberOf_0 (by decide) ?_
  refine J_iload_1 dX7_numberOf_2 ?_
  first | refine J_imulN dX7_numberOf_3 ?_ | refine J_imul dX7_numberOf_3 ?_
  refine J_iload_2 dX7_numberOf_4 ?_
  first | refine J_iaddN dX7_numberOf_5 ?_ | refine J_iadd dX7_numberOf_5 ?_
  refine J_istore_5 dX7_numberOf_6 (Nat.le_of_ble_eq_true rfl) rfl ?_
  refine J_bipush (v := nI 60) dX7_numberOf_8 (by decide) ?_
  refine J_iload_5 dX7_numberOf_10 ?_
  first | refine J_imulN dX7_numberOf_12 ?_ | refine J_imul dX7_numberOf_12 ?_
  refine J_iload_3 dX7_numberOf_13 ?_
  first | refine J_iaddN dX7_numberOf_14 ?_ | refine J_iadd dX7_numberOf_14 ?_
  refine J_aload_0 dX7_numberOf_15 ?_
  refine J_cV0i dX7_numberOf_16 jmX7_aSecond mv_X7_135 h0 rfl (Nat.le_of_ble_eq_true rfl) (by decide) (m_aSec p) ?_
  first | refine J_imulN dX7_numberOf_19 ?_ | refine J_imul dX7_numberOf_19 ?_
  refine J_iload_4 dX7_numberOf_20 ?_
  first | refine J_iaddN dX7_numberOf_22 ?_ | refine J_iadd dX7_numberOf_22 ?_
  refine J_istore_6 dX7_numberOf_23 (Nat.le_of_ble_eq_true rfl) rfl ?_
  refine J_aload_0 dX7_numberOf_25 ?_
  refine J_get dX7_numberOf_26 fl_X7_28 h0 rfl ?_
  refine J_iconst (v := nI 0) dX7_numberOf_29 (by decide) ?_
  refine J_iald dX7_numberOf_30 hfs rfl (by omega) (by omega) ?_
  refine J_topi (b := nI (dst D 0)) (hfs0 0 (by decide)) ?_
  first | refine J_if_eqB (tgt := 37) dX7_numberOf_31 (by decide) (fun c31 => ?_) (fun c31 => ?_) | refine J_if_eqN (tgt := 37) dX7_numberOf_31 (by decide) (by omega) (fun c31 => ?_) (fun c31 => ?_) | refine J_if_eq (tgt := 37) dX7_numberOf_31 (by decide) (fun c31 => ?_) (fun c31 => ?_)
  · refine J_iload_2 dX7_numberOf_37 ?_
    refine J_bipush (v := nI 10) dX7_numberOf_38 (by decide) ?_
    refine J_iremN dX7_numberOf_40 (by omega) (by omega) (by omega) ?_
    first | refine J_if_eqB (tgt := 59) dX7_numberOf_41 (by decide) (fun c41 => ?_) (fun c41 => ?_) | refine J_if_eqN (tgt := 59) dX7_numberOf_41 (by decide) (by omega) (fun c41 => ?_) (fun c41 => ?_) | refine J_if_eq (tgt := 59) dX7_numberOf_41 (by decide) (fun c41 => ?_) (fun c41 => ?_)
    · have eq : sNum D a b c d = nI (frmN (a * 60 + b) c d (dst D 0)) := if_neg (by omega)
      have eq2 : frmN (a * 60 + b) c d (dst D 0) = ((a * 60 + b) * 60 + c) * rt (dst D 0) + d - 2 * ((a * 60 + b) - (a * 60 + b) / 10) := if_pos c31
      refine J_iload_6 dX7_numberOf_59 ?_
      refine J_iconst (v := nI 2) dX7_numberOf_61 (by decide) ?_
      refine J_iload_5 dX7_numberOf_62 ?_
      refine J_iload_5 dX7_numberOf_64 ?_
      refine J_bipush (v := nI 10) dX7_numberOf_66 (by decide) ?_
      refine J_idivN dX7_numberOf_68 (by omega) (by omega) (by omega) ?_
      first | refine J_isubN dX7_numberOf_69 (by omega) ?_ | refine J_isub dX7_numberOf_69 ?_
      first | refine J_imulN dX7_numberOf_70 ?_ | refine J_imul dX7_numberOf_70 ?_
      first | refine J_isubN dX7_numberOf_71 (by omega) ?_ | refine J_isub dX7_numberOf_71 ?_
      exact J_iret dX7_numberOf_72 rfl (⟨by first | rw [eq, eq2, e1, e2] | rw [eq], rfl⟩)
    · refine J_iload_3 dX7_numberOf_44 ?_
      first | refine J_if_neB (tgt := 59) dX7_numberOf_45 (by decide) (fun c45 => ?_) (fun c45 => ?_) | refine J_if_neN (tgt := 59) dX7_numberOf_45 (by decide) (by omega) (fun c45 => ?_) (fun c45 => ?_) | refine J_if_ne (tgt := 59) dX7_numberOf_45 (by decide) (fun c45 => ?_) (fun c45 => ?_)
      · have eq : sNum D a b c d = nI (frmN (a * 60 + b) c d (dst D 0)) := if_neg (by omega)
        have eq2 : frmN (a * 60 + b) c d (dst D 0) = ((a * 60 + b) * 60 + c) * rt (dst D 0) + d - 2 * ((a * 60 + b) - (a * 60 + b) / 10) := if_pos c31
        refine J_iload_6 dX7_numberOf_59 ?_
        refine J_iconst (v := nI 2) dX7_numberOf_61 (by decide) ?_
        refine J_iload_5 dX7_numberOf_62 ?_
        refine J_iload_5 dX7_numberOf_64 ?_
        refine J_bipush (v := nI 10) dX7_numberOf_66 (by decide) ?_
        refine J_idivN dX7_numberOf_68 (by omega) (by omega) (by omega) ?_
        first | refine J_isubN dX7_numberOf_69 (by omega) ?_ | refine J_isub dX7_numberOf_69 ?_
        first | refine J_imulN dX7_numberOf_70 ?_ | refine J_imul dX7_numberOf_70 ?_
        first | refine J_isubN dX7_numberOf_71 (by omega) ?_ | refine J_isub dX7_numberOf_71 ?_
        exact J_iret dX7_numberOf_72 rfl (⟨by first | rw [eq, eq2, e1, e2] | rw [eq], rfl⟩)
      · refine J_iload_4 dX7_numberOf_48 ?_
        refine J_iconst (v := nI 2) dX7_numberOf_50 (by decide) ?_
        first | refine J_icmp_geN (tgt := 59) dX7_numberOf_51 (by decide) (by omega) (by omega) (fun c51 => ?_) (fun c51 => ?_) | refine J_icmp_ge (tgt := 59) dX7_numberOf_51 (by decide) (fun c51 => ?_) (fun c51 => ?_)
        · have eq : sNum D a b c d = nI (frmN (a * 60 + b) c d (dst D 0)) := if_neg (by omega)
          have eq2 : frmN (a * 60 + b) c d (dst D 0) = ((a * 60 + b) * 60 + c) * rt (dst D 0) + d - 2 * ((a * 60 + b) - (a * 60 + b) / 10) := if_pos c31
          refine J_iload_6 dX7_numberOf_59 ?_
          refine J_iconst (v := nI 2) dX7_numberOf_61 (by decide) ?_
          refine J_iload_5 dX7_numberOf_62 ?_
          refine J_iload_5 dX7_numberOf_64 ?_
          refine J_bipush (v := nI 10) dX7_numberOf_66 (by decide) ?_
          refine J_idivN dX7_numberOf_68 (by omega) (by omega) (by omega) ?_
          first | refine J_isubN dX7_numberOf_69 (by omega) ?_ | refine J_isub dX7_numberOf_69 ?_
          first | refine J_imulN dX7_numberOf_70 ?_ | refine J_imul dX7_numberOf_70 ?_
          first | refine J_isubN dX7_numberOf_71 (by omega) ?_ | refine J_isub dX7_numberOf_71 ?_
          exact J_iret dX7_numberOf_72 rfl (⟨by first | rw [eq, eq2, e1, e2] | rw [eq], rfl⟩)
        · refine J_bipush (v := -3) dX7_numberOf_54 (by decide) ?_
          have eq : sNum D a b c d = -3 := if_pos (by omega)
          refine J_goto (tgt := 72) dX7_numberOf_56 (by decide) ?_
          exact J_iret dX7_numberOf_72 rfl (⟨by first | rw [eq, eq2, e1, e2] | rw [eq], rfl⟩)
  · refine J_iload_6 dX7_numberOf_34 ?_
    exact J_iret dX7_numberOf_36 rfl (⟨by unfold sNum frmN; rw [if_neg (fun z => absurd z.1 (Nat.ne_of_gt c31)), if_neg (Nat.ne_of_gt c31), e1], rfl⟩)
theorem m_number_bad (p : mdAt h D tb F) {a b c d : Int32} (hb : ¬ ((∃ k, k < 100 ∧ a = nI k) ∧ (∃ k, k < 60 ∧ b = nI k) ∧ (∃ k, k < 60 ∧ c = nI k) ∧ ∃ k, k < rt (dst D 0) ∧ d = nI k)) : CtI X mX7_number 2 [.ref 51, .int a, .int b, .int c, .int d] h (-2) := by
  have h0 := p.1
  have hr := @rt_v (dst D 0)
  refine Ct_of jmX7_number [some (.ref 51), some (.int a), some (.int b), some (.int c), some (.int d)] (Nat.le_of_ble_eq_true rfl) rfl ?_
  show J X RX7 cX7_number 5 _ (some .int) _ 0 _ _ _
  rcases ix_cases a 100 (by decide) with ⟨k1, hk1, rfl⟩ | ha
  · rcases ix_cases b 60 (by decide) with ⟨k2, hk2, rfl⟩ | hb
    · rcases ix_cases c 60 (by decide) with ⟨k3, hk3, rfl⟩ | hc
      · rcases ix_cases d (rt (dst D 0)) (by omega) with ⟨k4, hk4, rfl⟩ | hd
        · exact absurd ⟨⟨k1, hk1, rfl⟩, ⟨k2, hk2, rfl⟩, ⟨k3, hk3, rfl⟩, k4, hk4, rfl⟩ hb
        · refine J_iload_1 dX7_number_0 ?_
          refine J_iconst (v := nI 0) dX7_number_1 (by decide) ?_
          refine J_bipush (v := nI 99) dX7_number_2 (by decide) ?_
          refine J_cS3i dX7_number_4 jmX7_in ms_X7_69 (Nat.le_of_ble_eq_true rfl) (by decide) (m_inT (by omega) (by omega) (by decide)) ?_
          refine J_if_eq (tgt := 57) dX7_number_7 (by decide) (fun c => absurd c (by decide)) (fun _ => ?_)
          refine J_iload_2 dX7_number_10 ?_
          refine J_iconst (v := nI 0) dX7_number_11 (by decide) ?_
          refine J_bipush (v := nI 59) dX7_number_12 (by decide) ?_
          refine J_cS3i dX7_number_14 jmX7_in ms_X7_69 (Nat.le_of_ble_eq_true rfl) (by decide) (m_inT (by omega) (by omega) (by decide)) ?_
          refine J_if_eq (tgt := 57) dX7_number_17 (by decide) (fun c => absurd c (by decide)) (fun _ => ?_)
          refine J_iload_3 dX7_number_20 ?_
          refine J_iconst (v := nI 0) dX7_number_21 (by decide) ?_
          refine J_bipush (v := nI 59) dX7_number_22 (by decide) ?_
          refine J_cS3i dX7_number_24 jmX7_in ms_X7_69 (Nat.le_of_ble_eq_true rfl) (by decide) (m_inT (by omega) (by omega) (by decide)) ?_
          refine J_if_eq (tgt := 57) dX7_number_27 (by decide) (fun c => absurd c (by decide)) (fun _ => ?_)
          refine J_iload_4 dX7_number_30 ?_
          refine J_iconst (v := nI 0) dX7_number_32 (by decide) ?_
          refine J_aload_0 dX7_number_33 ?_
          refine J_cV0i dX7_number_34 jmX7_aSecond mv_X7_135 h0 rfl (Nat.le_of_ble_eq_true rfl) (by decide) (m_aSec p) ?_
          refine J_iconst (v := nI 1) dX7_number_37 (by decide) ?_
          refine J_isubN dX7_number_38 (by omega) ?_
          refine J_cS3i dX7_number_39 jmX7_in ms_X7_69 (Nat.le_of_ble_eq_true rfl) (by decide) (m_inB (n := rt (dst D 0) - 1) (by omega) (by rw [show rt (dst D 0) - 1 + 1 = rt (dst D 0) by omega]; exact hd)) ?_
          refine J_if_eq (tgt := 57) dX7_number_42 (by decide) (fun _ => ?_) (fun c => absurd (by decide) c)
          refine J_bipush (v := -2) dX7_number_57 (by decide) ?_
          exact J_iret dX7_number_59 rfl (⟨rfl, rfl⟩)
      · refine J_iload_1 dX7_number_0 ?_
        refine J_iconst (v := nI 0) dX7_number_1 (by decide) ?_
        refine J_bipush (v := nI 99) dX7_number_2 (by decide) ?_
        refine J_cS3i dX7_number_4 jmX7_in ms_X7_69 (Nat.le_of_ble_eq_true rfl) (by decide) (m_inT (by omega) (by omega) (by decide)) ?_
        refine J_if_eq (tgt := 57) dX7_number_7 (by decide) (fun c => absurd c (by decide)) (fun _ => ?_)
        refine J_iload_2 dX7_number_10 ?_
        refine J_iconst (v := nI 0) dX7_number_11 (by decide) ?_
        refine J_bipush (v := nI 59) dX7_number_12 (by decide) ?_
        refine J_cS3i dX7_number_14 jmX7_in ms_X7_69 (Nat.le_of_ble_eq_true rfl) (by decide) (m_inT (by omega) (by omega) (by decide)) ?_
        refine J_if_eq (tgt := 57) dX7_number_17 (by decide) (fun c => absurd c (by decide)) (fun _ => ?_)
        refine J_iload_3 dX7_number_20 ?_
        refine J_iconst (v := nI 0) dX7_number_21 (by decide) ?_
        refine J_bipush (v := nI 59) dX7_number_22 (by decide) ?_
        refine J_cS3i dX7_number_24 jmX7_in ms_X7_69 (Nat.le_of_ble_eq_true rfl) (by decide) (m_inB (n := 59) (by decide) hc) ?_
        refine J_if_eq (tgt := 57) dX7_number_27 (by decide) (fun _ => ?_) (fun c => absurd (by decide) c)
        refine J_bipush (v := -2) dX7_number_57 (by decide) ?_
        exact J_iret dX7_number_59 rfl (⟨rfl, rfl⟩)
    · refine J_iload_1 dX7_number_0 ?_
      refine J_iconst (v := nI 0) dX7_number_1 (by decide) ?_
      refine J_bipush (v := nI 99) dX7_number_2 (by decide) ?_
      refine J_cS3i dX7_number_4 jmX7_in ms_X7_69 (Nat.le_of_ble_eq_true rfl) (by decide) (m_inT (by omega) (by omega) (by decide)) ?_
      refine J_if_eq (tgt := 57) dX7_number_7 (by decide) (fun c => absurd c (by decide)) (fun _ => ?_)
      refine J_iload_2 dX7_number_10 ?_
      refine J_iconst (v := nI 0) dX7_number_11 (by decide) ?_
      refine J_bipush (v := nI 59) dX7_number_12 (by decide) ?_
      refine J_cS3i dX7_number_14 jmX7_in ms_X7_69 (Nat.le_of_ble_eq_true rfl) (by decide) (m_inB (n := 59) (by decide) hb) ?_
      refine J_if_eq (tgt := 57) dX7_number_17 (by decide) (fun _ => ?_) (fun c => absurd (by decide) c)
      refine J_bipush (v := -2) dX7_number_57 (by decide) ?_
      exact J_iret dX7_number_59 rfl (⟨rfl, rfl⟩)
  · refine J_iload_1 dX7_number_0 ?_
    refine J_iconst (v := nI 0) dX7_number_1 (by decide) ?_
    refine J_bipush (v := nI 99) dX7_number_2 (by decide) ?_
    refine J_cS3i dX7_number_4 jmX7_in ms_X7_69 (Nat.le_of_ble_eq_true rfl) (by decide) (m_inB (n := 99) (by decide) ha) ?_
    refine J_if_eq (tgt := 57) dX7_number_7 (by decide) (fun _ => ?_) (fun c => absurd (by decide) c)
    refine J_bipush (v := -2) dX7_number_57 (by decide) ?_
    exact J_iret dX7_number_59 rfl (⟨rfl, rfl⟩)
theorem m_number_ok (p : mdAt h D tb F) {a b c d : Nat} (ha : a < 100) (hb : b < 60) (hc : c < 60) (hd : d < rt (dst D 0)) : CtI X mX7_number 2 [.ref 51, .int (nI a), .int (nI b), .int (nI c), .int (nI d)] h (sNum D a b c d) := by
  have h0 := p.1
  have hr := @rt_v (dst D 0)
  refine Ct_of jmX7_number [some (.ref 51), some (.int (nI a)), some (.int (nI b)), some (.int (nI c)), some (.int (nI d))] (Nat.le_of_ble_eq_true rfl) rfl ?_
  show J X RX7 cX7_number 5 _ (some .int) _ 0 _ _ _
  refine J_iload_1 dX7_number_0 ?_
  refine J_iconst (v := nI 0) dX7_number_1 (by decide) ?_
  refine J_bipush (v := nI 99) dX7_number_2 (by decide) ?_
  refine J_cS3i dX7_number_4 jmX7_in ms_X7_69 (Nat.le_of_ble_eq_true rfl) (by decide) (m_inT (by omega) (by omega) (by decide)) ?_
  refine J_if_eq (tgt := 57) dX7_number_7 (by decide) (fun c => absurd c (by decide)) (fun _ => ?_)
  refine J_iload_2 dX7_number_10 ?_
  refine J_iconst (v := nI 0) dX7_number_11 (by decide) ?_
  refine J_bipush (v := nI 59) dX7_number_12 (by decide) ?_
  refine J_cS3i dX7_number_14 jmX7_in ms_X7_69 (Nat.le_of_ble_eq_true rfl) (by decide) (m_inT (by omega) (by omega) (by decide)) ?_
  refine J_if_eq (tgt := 57) dX7_number_17 (by decide) (fun c => absurd c (by decide)) (fun _ => ?_)
  refine J_iload_3 dX7_number_20 ?_
  refine J_iconst (v := nI 0) dX7_number_21 (by decide) ?_
  refine J_bipush (v := nI 59) dX7_number_22 (by decide) ?_
  refine J_cS3i dX7_number_24 jmX7_in ms_X7_69 (Nat.le_of_ble_eq_true rfl) (by decide) (m_inT (by omega) (by omega) (by decide)) ?_
  refine J_if_eq (tgt := 57) dX7_number_27 (by decide) (fun c => absurd c (by decide)) (fun _ => ?_)
  refine J_iload_4 dX7_number_30 ?_
  refine J_iconst (v := nI 0) dX7_number_32 (by decide) ?_
  refine J_aload_0 dX7_number_33 ?_
  refine J_cV0i dX7_number_34 jmX7_aSecond mv_X7_135 h0 rfl (Nat.le_of_ble_eq_true rfl) (by decide) (m_aSec p) ?_
  refine J_iconst (v := nI 1) dX7_number_37 (by decide) ?_
  refine J_isubN dX7_number_38 (by omega) ?_
  refine J_cS3i dX7_number_39 jmX7_in ms_X7_69 (Nat.le_of_ble_eq_true rfl) (by decide) (m_inT (by omega) (by omega) (by omega)) ?_
  refine J_if_eq (tgt := 57) dX7_number_42 (by decide) (fun c => absurd c (by decide)) (fun _ => ?_)
  refine J_aload_0 dX7_number_45 ?_
  refine J_iload_1 dX7_number_46 ?_
  refine J_iload_2 dX7_number_47 ?_
  refine J_iload_3 dX7_number_48 ?_
  refine J_iload_4 dX7_number_49 ?_
  refine J_cV4i dX7_number_51 jmX7_numberOf mv_X7_143 h0 rfl (Nat.le_of_ble_eq_true rfl) (by decide) (m_numOf p ha hb hc (by omega)) ?_
  refine J_goto (tgt := 59) dX7_number_54 (by decide) ?_
  exact J_iret dX7_number_59 rfl (⟨rfl, rfl⟩)
theorem m_max {a b : Int32} : CtI X mX7_max 0 [.int a, .int b] h (if a < b then b else a) := by
  refine Ct_of jmX7_max [some (.int a), some (.int b)] (Nat.le_of_ble_eq_true rfl) rfl ?_
  show J X RX7 cX7_max 2 _ (some .int) _ 0 _ _ _
  refine J_iload_0 dX7_max_0 ?_
  refine J_iload_1 dX7_max_1 ?_
  refine J_icmp_le (tgt := 9) dX7_max_2 (by decide) (fun c2 => ?_) (fun c2 => ?_)
  · refine J_iload_1 dX7_max_9 ?_
    exact J_iret dX7_max_10 rfl (⟨by first | (rw [if_neg (Int32.not_lt.mpr (by first | exact Int32.le_of_lt (Int32.not_le.mp c2) | exact Int32.not_lt.mp c2))]) | (by_cases z : a < b; (rw [if_pos z]); (rw [if_neg z, Int32.le_antisymm c2 (Int32.not_lt.mp z)])), rfl⟩)
  · refine J_iload_0 dX7_max_5 ?_
    refine J_goto (tgt := 10) dX7_max_6 (by decide) ?_
    exact J_iret dX7_max_10 rfl (⟨by first | (rw [if_neg (Int32.not_lt.mpr (by first | exact Int32.le_of_lt (Int32.not_le.mp c2) | exact Int32.not_lt.mp c2))]) | (by_cases z : a < b; (rw [if_pos z]); (rw [if_neg z, Int32.le_antisymm c2 (Int32.not_lt.mp z)])), rfl⟩)
theorem m_min {a b : Int32} : CtI X mX7_min 0 [.int a, .int b] h (if b < a then b else a) := by
  refine Ct_of jmX7_min [some (.int a), some (.int b)] (Nat.le_of_ble_eq_true rfl) rfl ?_
  show J X RX7 cX7_min 2 _ (some .int) _ 0 _ _ _
  refine J_iload_0 dX7_min_0 ?_
  refine J_iload_1 dX7_min_1 ?_
  refine J_icmp_ge (tgt := 9) dX7_min_2 (by decide) (fun c2 => ?_) (fun c2 => ?_)
  · refine J_iload_1 dX7_min_9 ?_
    exact J_iret dX7_min_10 rfl (⟨by first | (rw [if_neg (Int32.not_lt.mpr (Int32.le_of_lt (Int32.not_le.mp c2)))]) | (by_cases z : b < a; (rw [if_pos z]); (rw [if_neg z, Int32.le_antisymm c2 (Int32.not_lt.mp z)])), rfl⟩)
  · refine J_iload_0 dX7_min_5 ?_
    refine J_goto (tgt := 10) dX7_min_6 (by decide) ?_
    exact J_iret dX7_min_10 rfl (⟨by first | (rw [if_neg (Int32.not_lt.mpr (Int32.le_of_lt (Int32.not_le.mp c2)))]) | (by_cases z : b < a; (rw [if_pos z]); (rw [if_neg z, Int32.le_antisymm c2 (Int32.not_lt.mp z)])), rfl⟩)
end
