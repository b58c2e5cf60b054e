section
variable {X : Cx} {h : HF} {D : DS} {tb : Int32} {F : Nat → Nat → Int32}
theorem mdE (p : mdAt h D tb F) {l e : Nat} (hl : l < 2) (he : e < dn D l) : 8 * l + e < 16 ∧ edOk (de D l e) ∧ dn D l ≤ 8 := by
  have h8 := p.2.2.2.2.2.2.2.2.2.2.2.2.2.1 l hl
  exact ⟨by omega, p.2.2.2.2.2.2.2.2.2.2.2.2.2.2.1 l e hl he, h8⟩
theorem m_frameOf (p : mdAt h D tb F) {l e k : Nat} (hl : l < 2) (he : e < dn D l) (hk : k ≤ 4000) : CtI X mX7_frameOf 0 [.ref 51, .int (nI (8 * l + e)), .int (nI k)] h (nI (fr (de D l e) k)) := by
  obtain ⟨h0, -, ⟨a0, a1, a2, a3, a4⟩, hF, -⟩ := id p
  obtain ⟨hE, ⟨o0, o1, o2, o3, o4, o5, o6⟩, h8⟩ := mdE p hl he
  have hm : k * de D l e 3 ≤ 24000 := Nat.mul_le_mul hk o4
  refine Ct_of jmX7_frameOf [some (.ref 51), some (.int (nI (8 * l + e))), some (.int (nI k))] (Nat.le_of_ble_eq_true rfl) rfl ?_
  show J X RX7 cX7_frameOf 3 _ (some .int) _ 0 _ _ _
  refine J_aload_0 dX7_frameOf_0 ?_
  refine J_get dX7_frameOf_1 fl_X7_16 h0 rfl ?_
  refine J_iload_1 dX7_frameOf_4 ?_
  refine J_iald dX7_frameOf_5 a1 rfl (by omega) (by omega) ?_
  refine J_topi (b := nI (de D l e 1)) (hF l e 1 hl he (by decide)) ?_
  refine J_iload_2 dX7_frameOf_6 ?_
  refine J_aload_0 dX7_frameOf_7 ?_
  refine J_get dX7_frameOf_8 fl_X7_22 h0 rfl ?_
  refine J_iload_1 dX7_frameOf_11 ?_
  refine J_iald dX7_frameOf_12 a3 rfl (by omega) (by omega) ?_
  refine J_topi (b := nI (de D l e 3)) (hF l e 3 hl he (by decide)) ?_
  first | refine J_imulN dX7_frameOf_13 ?_ | refine J_imul dX7_frameOf_13 ?_
  refine J_aload_0 dX7_frameOf_14 ?_
  refine J_get dX7_frameOf_15 fl_X7_25 h0 rfl ?_
  refine J_iload_1 dX7_frameOf_18 ?_
  refine J_iald dX7_frameOf_19 a4 rfl (by omega) (by omega) ?_
  refine J_topi (b := nI (de D l e 4)) (hF l e 4 hl he (by decide)) ?_
  refine J_idivN dX7_frameOf_20 (by omega) (by omega) (by omega) ?_
  first | refine J_iaddN dX7_frameOf_21 ?_ | refine J_iadd dX7_frameOf_21 ?_
  exact J_iret dX7_frameOf_22 rfl (⟨rfl, rfl⟩)
theorem m_lastOf (p : mdAt h D tb F) {l e : Nat} (hl : l < 2) (he : e < dn D l) : CtI X mX7_lastOf 1 [.ref 51, .int (nI (8 * l + e))] h (nI (fl_ (de D l e))) := by
  obtain ⟨h0, -, ⟨a0, a1, a2, a3, a4⟩, hF, -⟩ := id p
  obtain ⟨hE, ⟨o0, o1, o2, o3, o4, o5, o6⟩, h8⟩ := mdE p hl he
  refine Ct_of jmX7_lastOf [some (.ref 51), some (.int (nI (8 * l + e)))] (Nat.le_of_ble_eq_true rfl) rfl ?_
  show J X RX7 cX7_lastOf 2 _ (some .int) _ 0 _ _ _
  refine J_aload_0 dX7_lastOf_0 ?_
  refine J_iload_1 dX7_lastOf_1 ?_
  refine J_aload_0 dX7_lastOf_2 ?_
  refine J_get dX7_lastOf_3 fl_X7_19 h0 rfl ?_
  refine J_iload_1 dX7_lastOf_6 ?_
  refine J_iald dX7_lastOf_7 a2 rfl (by omega) (by omega) ?_
  refine J_topi (b := nI (de D l e 2)) (hF l e 2 hl he (by decide)) ?_
  refine J_iconst (v := nI 1) dX7_lastOf_8 (by decide) ?_
  first | refine J_isubN dX7_lastOf_9 (by omega) ?_ | refine J_isub dX7_lastOf_9 ?_
  refine J_cV2i dX7_lastOf_10 jmX7_frameOf mv_X7_107 h0 rfl (Nat.le_of_ble_eq_true rfl) (by decide) (m_frameOf p hl he (by omega)) ?_
  exact J_iret dX7_lastOf_13 rfl (⟨rfl, rfl⟩)
theorem l_mbegin (p : mdAt h D tb F) {l m : Nat} (hl : l < 2) (hm : m ≤ dn D l) : ∀ (k e : Nat), e + k = m → J X RX7 cX7_beginOf 5 0 (some .int) (fun r h' => r = some (.int (nI (bg (de D l) m))) ∧ h' = h) 5 [some (.ref 51), some (.int (nI l)), some (.int (nI m)), some (.int (nI (bg (de D l) e))), some (.int (nI e))] [] h := by
  obtain ⟨h0, -, ⟨a0, a1, a2, a3, a4⟩, hF, -⟩ := id p
  have h8 := p.2.2.2.2.2.2.2.2.2.2.2.2.2.1 l hl
  intro k
  induction k with
  | zero =>
    intro e he
    obtain rfl : e = m := by omega
    refine J_iload_4 dX7_beginOf_5 ?_
    refine J_iload_2 dX7_beginOf_7 ?_
    refine J_icmp_geN (tgt := 32) dX7_beginOf_8 (by decide) (by omega) (by omega) (fun _ => ?_) (fun c => absurd c (by omega))
    refine J_iload_3 dX7_beginOf_32 ?_
    exact J_iret dX7_beginOf_33 rfl (⟨rfl, rfl⟩)
  | succ k ih =>
    intro e he
    refine J_iload_4 dX7_beginOf_5 ?_
    refine J_iload_2 dX7_beginOf_7 ?_
    refine J_icmp_geN (tgt := 32) dX7_beginOf_8 (by decide) (by omega) (by omega) (fun c => absurd c (by omega)) (fun _ => ?_)
    refine J_iload_3 dX7_beginOf_11 ?_
    refine J_aload_0 dX7_beginOf_12 ?_
    refine J_get dX7_beginOf_13 fl_X7_19 h0 rfl ?_
    refine J_bipush (v := nI 8) dX7_beginOf_16 (by decide) ?_
    refine J_iload_1 dX7_beginOf_18 ?_
    first | refine J_imulN dX7_beginOf_19 ?_ | refine J_imul dX7_beginOf_19 ?_
    refine J_iload_4 dX7_beginOf_20 ?_
    first | refine J_iaddN dX7_beginOf_22 ?_ | refine J_iadd dX7_beginOf_22 ?_
    refine J_iald dX7_beginOf_23 a2 rfl (by omega) (by omega) ?_
    refine J_topi (b := nI (de D l e 2)) (hF l e 2 hl (by omega) (by decide)) ?_
    first | refine J_iaddN dX7_beginOf_24 ?_ | refine J_iadd dX7_beginOf_24 ?_
    refine J_istore_3 dX7_beginOf_25 (Nat.le_of_ble_eq_true rfl) rfl ?_
    first | refine J_inc_4 dX7_beginOf_26 (Nat.le_of_ble_eq_true rfl) rfl ?_ | refine J_iinc_4 dX7_beginOf_26 rfl (Nat.le_of_ble_eq_true rfl) rfl ?_
    refine J_goto (tgt := 5) dX7_beginOf_29 (by decide) ?_
    exact ih (e + 1) (by omega)
theorem m_begin (p : mdAt h D tb F) {l m : Nat} (hl : l < 2) (hm : m ≤ dn D l) : CtI X mX7_beginOf 0 [.ref 51, .int (nI l), .int (nI m)] h (nI (bg (de D l) m)) := by
  refine Ct_of jmX7_beginOf [some (.ref 51), some (.int (nI l)), some (.int (nI m)), none, none] (Nat.le_of_ble_eq_true rfl) rfl ?_
  show J X RX7 cX7_beginOf 5 _ (some .int) _ 0 _ _ _
  refine J_iconst (v := nI 0) dX7_beginOf_0 (by decide) ?_
  refine J_istore_3 dX7_beginOf_1 (Nat.le_of_ble_eq_true rfl) rfl ?_
  refine J_iconst (v := nI 0) dX7_beginOf_2 (by decide) ?_
  refine J_istore_4 dX7_beginOf_3 (Nat.le_of_ble_eq_true rfl) rfl ?_
  exact l_mbegin p hl hm m 0 (by omega)
theorem m_infoOf (p : mdAt h D tb F) {l e w : Nat} (hl : l < 2) (he : e < dn D l) (hw : w < 8) : CtI X mX7_infoOf 2 [.ref 51, .int (nI l), .int (nI e), .int (nI w)] h (sInfo D l e w) := by
  obtain ⟨h0, -, ⟨a0, a1, a2, a3, a4⟩, hF, -⟩ := id p
  obtain ⟨hE, ok, h8⟩ := mdE p hl he
  refine Ct_of jmX7_infoOf [some (.ref 51), some (.int (nI l)), some (.int (nI e)), some (.int (nI w)), none] (Nat.le_of_ble_eq_true rfl) rfl ?_
  show J X RX7 cX7_infoOf 5 _ (some .int) _ 0 _ _ _
  rcases (show w = 0 ∨ w = 1 ∨ w = 2 ∨ w = 3 ∨ w = 4 ∨ w = 5 ∨ w = 6 ∨ w = 7 by omega) with rfl | rfl | rfl | rfl | rfl | rfl | rfl | rfl
  · refine J_bipush (v := nI 8) dX7_infoOf_0 (by decide) ?_
    refine J_iload_1 dX7_infoOf_2 ?_
    first | refine J_imulN dX7_infoOf_3 ?_ | refine J_imul dX7_infoOf_3 ?_
    refine J_iload_2 dX7_infoOf_4 ?_
    first | refine J_iaddN dX7_infoOf_5 ?_ | refine J_iadd dX7_infoOf_5 ?_
    refine J_istore_4 dX7_infoOf_6 (Nat.le_of_ble_eq_true rfl) rfl ?_
    refine J_iload_3 dX7_infoOf_8 ?_
    refine J_tabN (tgt := 52) dX7_infoOf_9 (by decide) (by decide) rfl (by decide) ?_
    refine J_aload_0 dX7_infoOf_52 ?_
    refine J_get dX7_infoOf_53 fl_X7_13 h0 rfl ?_
    refine J_iload_4 dX7_infoOf_56 ?_
    refine J_iald dX7_infoOf_58 a0 rfl (by omega) (by omega) ?_
    refine J_topi (b := nI (de D l e 0)) (hF l e 0 hl he (by decide)) ?_
    exact J_iret dX7_infoOf_59 rfl (⟨rfl, rfl⟩)
  · refine J_bipush (v := nI 8) dX7_infoOf_0 (by decide) ?_
    refine J_iload_1 dX7_infoOf_2 ?_
    first | refine J_imulN dX7_infoOf_3 ?_ | refine J_imul dX7_infoOf_3 ?_
    refine J_iload_2 dX7_infoOf_4 ?_
    first | refine J_iaddN dX7_infoOf_5 ?_ | refine J_iadd dX7_infoOf_5 ?_
    refine J_istore_4 dX7_infoOf_6 (Nat.le_of_ble_eq_true rfl) rfl ?_
    refine J_iload_3 dX7_infoOf_8 ?_
    refine J_tabN (tgt := 60) dX7_infoOf_9 (by decide) (by decide) rfl (by decide) ?_
    refine J_aload_0 dX7_infoOf_60 ?_
    refine J_get dX7_infoOf_61 fl_X7_16 h0 rfl ?_
    refine J_iload_4 dX7_infoOf_64 ?_
    refine J_iald dX7_infoOf_66 a1 rfl (by omega) (by omega) ?_
    refine J_topi (b := nI (de D l e 1)) (hF l e 1 hl he (by decide)) ?_
    exact J_iret dX7_infoOf_67 rfl (⟨rfl, rfl⟩)
  · refine J_bipush (v := nI 8) dX7_infoOf_0 (by decide) ?_
    refine J_iload_1 dX7_infoOf_2 ?_
    first | refine J_imulN dX7_infoOf_3 ?_ | refine J_imul dX7_infoOf_3 ?_
    refine J_iload_2 dX7_infoOf_4 ?_
    first | refine J_iaddN dX7_infoOf_5 ?_ | refine J_iadd dX7_infoOf_5 ?_
    refine J_istore_4 dX7_infoOf_6 (Nat.le_of_ble_eq_true rfl) rfl ?_
    refine J_iload_3 dX7_infoOf_8 ?_
    refine J_tabN (tgt := 68) dX7_infoOf_9 (by decide) (by decide) rfl (by decide) ?_
    refine J_aload_0 dX7_infoOf_68 ?_
    refine J_get dX7_infoOf_69 fl_X7_19 h0 rfl ?_
    refine J_iload_4 dX7_infoOf_72 ?_
    refine J_iald dX7_infoOf_74 a2 rfl (by omega) (by omega) ?_
    refine J_topi (b := nI (de D l e 2)) (hF l e 2 hl he (by decide)) ?_
    exact J_iret dX7_infoOf_75 rfl (⟨rfl, rfl⟩)
  · refine J_bipush (v := nI 8) dX7_infoOf_0 (by decide) ?_
    refine J_iload_1 dX7_infoOf_2 ?_
    first | refine J_imulN dX7_infoOf_3 ?_ | refine J_imul dX7_infoOf_3 ?_
    refine J_iload_2 dX7_infoOf_4 ?_
    first | refine J_iaddN dX7_infoOf_5 ?_ | refine J_iadd dX7_infoOf_5 ?_
    refine J_istore_4 dX7_infoOf_6 (Nat.le_of_ble_eq_true rfl) rfl ?_
    refine J_iload_3 dX7_infoOf_8 ?_
    refine J_tabN (tgt := 76) dX7_infoOf_9 (by decide) (by decide) rfl (by decide) ?_
    refine J_aload_0 dX7_infoOf_76 ?_
    refine J_get dX7_infoOf_77 fl_X7_22 h0 rfl ?_
    refine J_iload_4 dX7_infoOf_80 ?_
    refine J_iald dX7_infoOf_82 a3 rfl (by omega) (by omega) ?_
    refine J_topi (b := nI (de D l e 3)) (hF l e 3 hl he (by decide)) ?_
    exact J_iret dX7_infoOf_83 rfl (⟨rfl, rfl⟩)
  · refine J_bipush (v := nI 8) dX7_infoOf_0 (by decide) ?_
    refine J_iload_1 dX7_infoOf_2 ?_
    first | refine J_imulN dX7_infoOf_3 ?_ | refine J_imul dX7_infoOf_3 ?_
    refine J_iload_2 dX7_infoOf_4 ?_
    first | refine J_iaddN dX7_infoOf_5 ?_ | refine J_iadd dX7_infoOf_5 ?_
    refine J_istore_4 dX7_infoOf_6 (Nat.le_of_ble_eq_true rfl) rfl ?_
    refine J_iload_3 dX7_infoOf_8 ?_
    refine J_tabN (tgt := 84) dX7_infoOf_9 (by decide) (by decide) rfl (by decide) ?_
    refine J_aload_0 dX7_infoOf_84 ?_
    refine J_get dX7_infoOf_85 fl_X7_25 h0 rfl ?_
    refine J_iload_4 dX7_infoOf_88 ?_
    refine J_iald dX7_infoOf_90 a4 rfl (by omega) (by omega) ?_
    refine J_topi (b := nI (de D l e 4)) (hF l e 4 hl he (by decide)) ?_
    exact J_iret dX7_infoOf_91 rfl (⟨rfl, rfl⟩)
  · refine J_bipush (v := nI 8) dX7_infoOf_0 (by decide) ?_
    refine J_iload_1 dX7_infoOf_2 ?_
    first | refine J_imulN dX7_infoOf_3 ?_ | refine J_imul dX7_infoOf_3 ?_
    refine J_iload_2 dX7_infoOf_4 ?_
    first | refine J_iaddN dX7_infoOf_5 ?_ | refine J_iadd dX7_infoOf_5 ?_
    refine J_istore_4 dX7_infoOf_6 (Nat.le_of_ble_eq_true rfl) rfl ?_
    refine J_iload_3 dX7_infoOf_8 ?_
    refine J_tabN (tgt := 92) dX7_infoOf_9 (by decide) (by decide) rfl (by decide) ?_
    refine J_aload_0 dX7_infoOf_92 ?_
    refine J_iload_1 dX7_infoOf_93 ?_
    refine J_iload_2 dX7_infoOf_94 ?_
    refine J_cV2i dX7_infoOf_95 jmX7_beginOf mv_X7_111 h0 rfl (Nat.le_of_ble_eq_true rfl) (by decide) (m_begin p hl (by omega)) ?_
    exact J_iret dX7_infoOf_98 rfl (⟨rfl, rfl⟩)
  · refine J_bipush (v := nI 8) dX7_infoOf_0 (by decide) ?_
    refine J_iload_1 dX7_infoOf_2 ?_
    first | refine J_imulN dX7_infoOf_3 ?_ | refine J_imul dX7_infoOf_3 ?_
    refine J_iload_2 dX7_infoOf_4 ?_
    first | refine J_iaddN dX7_infoOf_5 ?_ | refine J_iadd dX7_infoOf_5 ?_
    refine J_istore_4 dX7_infoOf_6 (Nat.le_of_ble_eq_true rfl) rfl ?_
    refine J_iload_3 dX7_infoOf_8 ?_
    refine J_tabN (tgt := 99) dX7_infoOf_9 (by decide) (by decide) rfl (by decide) ?_
    refine J_aload_0 dX7_infoOf_99 ?_
    refine J_get dX7_infoOf_100 fl_X7_16 h0 rfl ?_
    refine J_iload_4 dX7_infoOf_103 ?_
    refine J_iald dX7_infoOf_105 a1 rfl (by omega) (by omega) ?_
    refine J_topi (b := nI (de D l e 1)) (hF l e 1 hl he (by decide)) ?_
    exact J_iret dX7_infoOf_106 rfl (⟨rfl, rfl⟩)
  · refine J_bipush (v := nI 8) dX7_infoOf_0 (by decide) ?_
    refine J_iload_1 dX7_infoOf_2 ?_
    first | refine J_imulN dX7_infoOf_3 ?_ | refine J_imul dX7_infoOf_3 ?_
    refine J_iload_2 dX7_infoOf_4 ?_
    first | refine J_iaddN dX7_infoOf_5 ?_ | refine J_iadd dX7_infoOf_5 ?_
    refine J_istore_4 dX7_infoOf_6 (Nat.le_of_ble_eq_true rfl) rfl ?_
    refine J_iload_3 dX7_infoOf_8 ?_
    refine J_tabNo (tgt := 107) dX7_infoOf_9 (by decide) (by decide) (by decide) ?_
    refine J_aload_0 dX7_infoOf_107 ?_
    refine J_iload_4 dX7_infoOf_108 ?_
    refine J_cV1i dX7_infoOf_110 jmX7_lastOf mv_X7_114 h0 rfl (Nat.le_of_ble_eq_true rfl) (by decide) (m_lastOf p hl he) ?_
    exact J_iret dX7_infoOf_113 rfl (⟨rfl, rfl⟩)
theorem m_info_bad (p : mdAt h D tb F) {l e w : Int32} (hb : ¬ ∃ j k u, j < 2 ∧ k < dn D j ∧ u < 8 ∧ l = nI j ∧ e = nI k ∧ w = nI u) : CtI X mX7_info 3 [.ref 51, .int l, .int e, .int w] h (-2) := by
  have h0 := p.1
  refine Ct_of jmX7_info [some (.ref 51), some (.int l), some (.int e), some (.int w)] (Nat.le_of_ble_eq_true rfl) rfl ?_
  show J X RX7 cX7_info 4 _ (some .int) _ 0 _ _ _
  by_cases hE : ∃ j k, j < 2 ∧ k < dn D j ∧ l = nI j ∧ e = nI k
  · obtain ⟨j, k, hj, hk, rfl, rfl⟩ := hE
    have hw : ¬ (0 ≤ w ∧ w < nI 8) := fun z => by
      rcases ix_cases w 8 (by decide) with ⟨u, hu, rfl⟩ | q
      · exact hb ⟨j, k, u, hj, hk, hu, rfl, rfl, rfl⟩
      · exact q z
    refine J_aload_0 dX7_info_0 ?_
    refine J_iload_1 dX7_info_1 ?_
    refine J_iload_2 dX7_info_2 ?_
    refine J_cV2i dX7_info_3 jmX7_isEdit mv_X7_89 h0 rfl (Nat.le_of_ble_eq_true rfl) (by decide) (m_isEditT p hj hk) ?_
    refine J_if_eq (tgt := 29) dX7_info_6 (by decide) (fun c => absurd c (by decide)) (fun _ => ?_)
    refine J_iload_3 dX7_info_9 ?_
    refine J_iconst (v := nI 0) dX7_info_10 (by decide) ?_
    refine J_bipush (v := nI 7) dX7_info_11 (by decide) ?_
    refine J_cS3i dX7_info_13 jmX7_in ms_X7_69 (Nat.le_of_ble_eq_true rfl) (by decide) (m_inB (n := 7) (by decide) hw) ?_
    refine J_if_eq (tgt := 29) dX7_info_16 (by decide) (fun _ => ?_) (fun c => absurd (by decide) c)
    refine J_bipush (v := -2) dX7_info_29 (by decide) ?_
    exact J_iret dX7_info_31 rfl (⟨rfl, rfl⟩)
  · refine J_aload_0 dX7_info_0 ?_
    refine J_iload_1 dX7_info_1 ?_
    refine J_iload_2 dX7_info_2 ?_
    refine J_cV2i dX7_info_3 jmX7_isEdit mv_X7_89 h0 rfl (Nat.le_of_ble_eq_true rfl) (by decide) (m_isEditF p hE) ?_
    refine J_if_eq (tgt := 29) dX7_info_6 (by decide) (fun _ => ?_) (fun c => absurd (by decide) c)
    refine J_bipush (v := -2) dX7_info_29 (by decide) ?_
    exact J_iret dX7_info_31 rfl (⟨rfl, rfl⟩)
theorem m_info_ok (p : mdAt h D tb F) {l e w : Nat} (hl : l < 2) (he : e < dn D l) (hw : w < 8) : CtI X mX7_info 3 [.ref 51, .int (nI l), .int (nI e), .int (nI w)] h (sInfo D l e w) := by
  have h0 := p.1
  refine Ct_of jmX7_info [some (.ref 51), some (.int (nI l)), some (.int (nI e)), some (.int (nI w))] (Nat.le_of_ble_eq_true rfl) rfl ?_
  show J X RX7 cX7_info 4 _ (some .int) _ 0 _ _ _
  refine J_aload_0 dX7_info_0 ?_
  refine J_iload_1 dX7_info_1 ?_
  refine J_iload_2 dX7_info_2 ?_
  refine J_cV2i dX7_info_3 jmX7_isEdit mv_X7_89 h0 rfl (Nat.le_of_ble_eq_true rfl) (by decide) (m_isEditT p hl he) ?_
  refine J_if_eq (tgt := 29) dX7_info_6 (by decide) (fun c => absurd c (by decide)) (fun _ => ?_)
  refine J_iload_3 dX7_info_9 ?_
  refine J_iconst (v := nI 0) dX7_info_10 (by decide) ?_
  refine J_bipush (v := nI 7) dX7_info_11 (by decide) ?_
  refine J_cS3i dX7_info_13 jmX7_in ms_X7_69 (Nat.le_of_ble_eq_true rfl) (by decide) (m_inT (by omega) (by omega) (by decide)) ?_
  refine J_if_eq (tgt := 29) dX7_info_16 (by decide) (fun c => absurd c (by decide)) (fun _ => ?_)
  refine J_aload_0 dX7_info_19 ?_
  refine J_iload_1 dX7_info_20 ?_
  refine J_iload_2 dX7_info_21 ?_
  refine J_iload_3 dX7_info_22 ?_
  refine J_cV3i dX7_info_23 jmX7_infoOf mv_X7_117 h0 rfl (Nat.le_of_ble_eq_true rfl) (by decide) (m_infoOf p hl he hw) ?_
  refine J_goto (tgt := 31) dX7_info_26 (by decide) ?_
  exact J_iret dX7_info_31 rfl (⟨rfl, rfl⟩)
theorem bg_le2 {x : Nat → Nat → Nat} {n : Nat} (h : ∀ e, e < n → edOk (x e)) : ∀ e, e ≤ n → bg x e ≤ 500 * e := by
  intro e
  induction e with
  | zero => intro _; exact Nat.le_refl _
  | succ e ih =>
    intro he
    have := ih (by omega)
    have o := (h e (by omega)).2.2.2.1
    show bg x e + x e 2 ≤ _
    omega
theorem l_mshows (p : mdAt h D tb F) {l f w : Nat} (hl : l < 2) (hf : f < 4000) (hw : w < 4) {r0 : Int32} : ∀ (k e : Nat) (o6 o7 : Option Value), lok o6 = true → e + k = dn D l → bg (de D l) e ≤ f → (∀ j, j < e → ¬ f < bg (de D l) (j + 1)) → (match hold (de D l) f e k with | none => (-1 : Int32) | some e => if w = 0 then nI e else if w = 1 then nI (de D l e 0) else if w = 2 then nI (fr (de D l e) (f - bg (de D l) e)) else if fr (de D l e) (f - bg (de D l) e) < dl D (de D l e 0) then 0 else 1) = r0 →
    J X RX7 cX7_showsOf 8 1 (some .int) (fun r h' => r = some (.int r0) ∧ h' = h) 6 [some (.ref 51), some (.int (nI l)), some (.int (nI f)), some (.int (nI w)), some (.int (nI (bg (de D l) e))), some (.int (nI e)), o6, o7] [] h := by
  obtain ⟨h0, ⟨fm, hm, hm0⟩, ⟨a0, a1, a2, a3, a4⟩, hF, -, ⟨fl, hfl, hfl0⟩, -⟩ := id p
  have h8 := p.2.2.2.2.2.2.2.2.2.2.2.2.2.1 l hl
  have hok := fun e he => p.2.2.2.2.2.2.2.2.2.2.2.2.2.2.1 l e hl he
  have hlen := p.2.2.2.2.2.2.2.2.2.2.2.1
  intro k
  induction k with
  | zero =>
    intro e o6 o7 l6 he hb _ hr
    have hr : (-1 : Int32) = r0 := hr
    refine J_iload_5 dX7_showsOf_6 ?_
    refine J_aload_0 dX7_showsOf_8 ?_
    refine J_get dX7_showsOf_9 fl_X7_7 h0 rfl ?_
    refine J_iload_1 dX7_showsOf_12 ?_
    refine J_iald dX7_showsOf_13 hm rfl (by omega) (by omega) ?_
    refine J_topi (b := nI (dn D l)) (hm0 l hl) ?_
    refine J_icmp_geN (tgt := 127) dX7_showsOf_14 (by decide) (by omega) (by omega) (fun _ => ?_) (fun c => absurd c (by omega))
    refine J_iconst (v := -1) dX7_showsOf_127 (by decide) ?_
    exact J_iret dX7_showsOf_128 rfl (⟨by rw [← hr], rfl⟩)
  | succ k ih =>
    intro e o6 o7 l6 he hb hn hr
    have ok := hok e (by omega)
    have o3 := ok.2.2.2.1
    have hbl := bg_le2 hok e (by omega)
    by_cases hq : f < bg (de D l) (e + 1)
    · have hq' : f < bg (de D l) e + de D l e 2 := hq
      rw [show hold (de D l) f e (k + 1) = some e from if_pos hq] at hr
      dsimp only at hr
      have hfr := fr_le ok (k := f - bg (de D l) e) (by omega)
      have hdl := hlen (de D l e 0) ok.1
      have e0 := hF l e 0 hl (by omega) (by decide)
      have hl0 := hfl0 (de D l e 0) ok.1
      refine J_iload_5 dX7_showsOf_6 ?_
      refine J_aload_0 dX7_showsOf_8 ?_
      refine J_get dX7_showsOf_9 fl_X7_7 h0 rfl ?_
      refine J_iload_1 dX7_showsOf_12 ?_
      refine J_iald dX7_showsOf_13 hm rfl (by omega) (by omega) ?_
      refine J_topi (b := nI (dn D l)) (hm0 l hl) ?_
      refine J_icmp_geN (tgt := 127) dX7_showsOf_14 (by decide) (by omega) (by omega) (fun c => absurd c (by omega)) (fun _ => ?_)
      refine J_bipush (v := nI 8) dX7_showsOf_17 (by decide) ?_
      refine J_iload_1 dX7_showsOf_19 ?_
      first | refine J_imulN dX7_showsOf_20 ?_ | refine J_imul dX7_showsOf_20 ?_
      refine J_iload_5 dX7_showsOf_21 ?_
      first | refine J_iaddN dX7_showsOf_23 ?_ | refine J_iadd dX7_showsOf_23 ?_
      refine J_istore_6 dX7_showsOf_24 (Nat.le_of_ble_eq_true rfl) rfl ?_
      refine J_iload_2 dX7_showsOf_26 ?_
      refine J_iload_4 dX7_showsOf_27 ?_
      refine J_aload_0 dX7_showsOf_29 ?_
      refine J_get dX7_showsOf_30 fl_X7_19 h0 rfl ?_
      refine J_iload_6 dX7_showsOf_33 ?_
      refine J_iald dX7_showsOf_35 a2 rfl (by omega) (by omega) ?_
      refine J_topi (b := nI (de D l e 2)) (hF l e 2 hl (by omega) (by decide)) ?_
      first | refine J_iaddN dX7_showsOf_36 ?_ | refine J_iadd dX7_showsOf_36 ?_
      refine J_icmp_geN (tgt := 109) dX7_showsOf_37 (by decide) (by omega) (by omega) (fun c => absurd c (by omega)) (fun _ => ?_)
      refine J_aload_0 dX7_showsOf_40 ?_
      refine J_iload_6 dX7_showsOf_41 ?_
      refine J_iload_2 dX7_showsOf_43 ?_
      refine J_iload_4 dX7_showsOf_44 ?_
      first | refine J_isubN dX7_showsOf_46 (by omega) ?_ | refine J_isub dX7_showsOf_46 ?_
      refine J_cV2i dX7_showsOf_47 jmX7_frameOf mv_X7_107 h0 rfl (Nat.le_of_ble_eq_true rfl) (by decide) (m_frameOf p hl (by omega) (by omega)) ?_
      refine J_istore_7 dX7_showsOf_50 (Nat.le_of_ble_eq_true rfl) rfl ?_
      refine J_iload_3 dX7_showsOf_52 ?_
      first | refine J_if_neB (tgt := 61) dX7_showsOf_53 (by decide) (fun c53 => ?_) (fun c53 => ?_) | refine J_if_neN (tgt := 61) dX7_showsOf_53 (by decide) (by omega) (fun c53 => ?_) (fun c53 => ?_) | refine J_if_ne (tgt := 61) dX7_showsOf_53 (by decide) (fun c53 => ?_) (fun c53 => ?_)
      · refine J_iload_3 dX7_showsOf_61 ?_
        refine J_iconst (v := nI 1) dX7_showsOf_62 (by decide) ?_
        first | refine J_icmp_neN (tgt := 76) dX7_showsOf_63 (by decide) (by omega) (by omega) (fun c63 => ?_) (fun c63 => ?_) | refine J_icmp_ne (tgt := 76) dX7_showsOf_63 (by decide) (fun c63 => ?_) (fun c63 => ?_)
        · refine J_iload_3 dX7_showsOf_76 ?_
          refine J_iconst (v := nI 2) dX7_showsOf_77 (by decide) ?_
          first | refine J_icmp_neN (tgt := 86) dX7_showsOf_78 (by decide) (by omega) (by omega) (fun c78 => ?_) (fun c78 => ?_) | refine J_icmp_ne (tgt := 86) dX7_showsOf_78 (by decide) (fun c78 => ?_) (fun c78 => ?_)
          · refine J_iload_7 dX7_showsOf_86 ?_
            refine J_aload_0 dX7_showsOf_88 ?_
            refine J_get dX7_showsOf_89 fl_X7_31 h0 rfl ?_
            refine J_aload_0 dX7_showsOf_92 ?_
            refine J_get dX7_showsOf_93 fl_X7_13 h0 rfl ?_
            refine J_iload_6 dX7_showsOf_96 ?_
            refine J_iald dX7_showsOf_98 a0 rfl (by omega) (by omega) ?_
            refine J_topi (b := nI (de D l e 0)) (e0) ?_
            refine J_iald dX7_showsOf_99 hfl rfl ok.1 (by omega) ?_
            refine J_topi (b := nI (dl D (de D l e 0))) (hl0) ?_
            first | refine J_icmp_ltN (tgt := 107) dX7_showsOf_100 (by decide) (by omega) (by omega) (fun c100 => ?_) (fun c100 => ?_) | refine J_icmp_lt (tgt := 107) dX7_showsOf_100 (by decide) (fun c100 => ?_) (fun c100 => ?_)
            · refine J_iconst (v := nI 0) dX7_showsOf_107 (by decide) ?_
              exact J_iret dX7_showsOf_108 rfl (⟨by rw [← hr]; first | rw [if_pos c53] | rw [if_neg (Nat.ne_of_gt c53), if_pos c63] | rw [if_neg (Nat.ne_of_gt c53), if_neg c63, if_pos c78] | rw [if_neg (Nat.ne_of_gt c53), if_neg c63, if_neg c78, if_pos c100]; rfl | rw [if_neg (Nat.ne_of_gt c53), if_neg c63, if_neg c78, if_neg (Nat.not_lt.mpr c100)]; rfl, rfl⟩)
            · refine J_iconst (v := nI 1) dX7_showsOf_103 (by decide) ?_
              refine J_goto (tgt := 108) dX7_showsOf_104 (by decide) ?_
              exact J_iret dX7_showsOf_108 rfl (⟨by rw [← hr]; first | rw [if_pos c53] | rw [if_neg (Nat.ne_of_gt c53), if_pos c63] | rw [if_neg (Nat.ne_of_gt c53), if_neg c63, if_pos c78] | rw [if_neg (Nat.ne_of_gt c53), if_neg c63, if_neg c78, if_pos c100]; rfl | rw [if_neg (Nat.ne_of_gt c53), if_neg c63, if_neg c78, if_neg (Nat.not_lt.mpr c100)]; rfl, rfl⟩)
          · refine J_iload_7 dX7_showsOf_81 ?_
            refine J_goto (tgt := 108) dX7_showsOf_83 (by decide) ?_
            exact J_iret dX7_showsOf_108 rfl (⟨by rw [← hr]; first | rw [if_pos c53] | rw [if_neg (Nat.ne_of_gt c53), if_pos c63] | rw [if_neg (Nat.ne_of_gt c53), if_neg c63, if_pos c78] | rw [if_neg (Nat.ne_of_gt c53), if_neg c63, if_neg c78, if_pos c100]; rfl | rw [if_neg (Nat.ne_of_gt c53), if_neg c63, if_neg c78, if_neg (Nat.not_lt.mpr c100)]; rfl, rfl⟩)
        · refine J_aload_0 dX7_showsOf_66 ?_
          refine J_get dX7_showsOf_67 fl_X7_13 h0 rfl ?_
          refine J_iload_6 dX7_showsOf_70 ?_
          refine J_iald dX7_showsOf_72 a0 rfl (by omega) (by omega) ?_
          refine J_topi (b := nI (de D l e 0)) (e0) ?_
          refine J_goto (tgt := 108) dX7_showsOf_73 (by decide) ?_
          exact J_iret dX7_showsOf_108 rfl (⟨by rw [← hr]; first | rw [if_pos c53] | rw [if_neg (Nat.ne_of_gt c53), if_pos c63] | rw [if_neg (Nat.ne_of_gt c53), if_neg c63, if_pos c78] | rw [if_neg (Nat.ne_of_gt c53), if_neg c63, if_neg c78, if_pos c100]; rfl | rw [if_neg (Nat.ne_of_gt c53), if_neg c63, if_neg c78, if_neg (Nat.not_lt.mpr c100)]; rfl, rfl⟩)
      · refine J_iload_5 dX7_showsOf_56 ?_
        refine J_goto (tgt := 108) dX7_showsOf_58 (by decide) ?_
        exact J_iret dX7_showsOf_108 rfl (⟨by rw [← hr]; first | rw [if_pos c53] | rw [if_neg (Nat.ne_of_gt c53), if_pos c63] | rw [if_neg (Nat.ne_of_gt c53), if_neg c63, if_pos c78] | rw [if_neg (Nat.ne_of_gt c53), if_neg c63, if_neg c78, if_pos c100]; rfl | rw [if_neg (Nat.ne_of_gt c53), if_neg c63, if_neg c78, if_neg (Nat.not_lt.mpr c100)]; rfl, rfl⟩)
    · have hq' : ¬ f < bg (de D l) e + de D l e 2 := hq
      rw [show hold (de D l) f e (k + 1) = hold (de D l) f (e + 1) k from if_neg hq] at hr
      refine J_iload_5 dX7_showsOf_6 ?_
      refine J_aload_0 dX7_showsOf_8 ?_
      refine J_get dX7_showsOf_9 fl_X7_7 h0 rfl ?_
      refine J_iload_1 dX7_showsOf_12 ?_
      refine J_iald dX7_showsOf_13 hm rfl (by omega) (by omega) ?_
      refine J_topi (b := nI (dn D l)) (hm0 l hl) ?_
      refine J_icmp_geN (tgt := 127) dX7_showsOf_14 (by decide) (by omega) (by omega) (fun c => absurd c (by omega)) (fun _ => ?_)
      refine J_bipush (v := nI 8) dX7_showsOf_17 (by decide) ?_
      refine J_iload_1 dX7_showsOf_19 ?_
      first | refine J_imulN dX7_showsOf_20 ?_ | refine J_imul dX7_showsOf_20 ?_
      refine J_iload_5 dX7_showsOf_21 ?_
      first | refine J_iaddN dX7_showsOf_23 ?_ | refine J_iadd dX7_showsOf_23 ?_
      refine J_istore_6 dX7_showsOf_24 (Nat.le_of_ble_eq_true rfl) rfl ?_
      refine J_iload_2 dX7_showsOf_26 ?_
      refine J_iload_4 dX7_showsOf_27 ?_
      refine J_aload_0 dX7_showsOf_29 ?_
      refine J_get dX7_showsOf_30 fl_X7_19 h0 rfl ?_
      refine J_iload_6 dX7_showsOf_33 ?_
      refine J_iald dX7_showsOf_35 a2 rfl (by omega) (by omega) ?_
      refine J_topi (b := nI (de D l e 2)) (hF l e 2 hl (by omega) (by decide)) ?_
      first | refine J_iaddN dX7_showsOf_36 ?_ | refine J_iadd dX7_showsOf_36 ?_
      refine J_icmp_geN (tgt := 109) dX7_showsOf_37 (by decide) (by omega) (by omega) (fun _ => ?_) (fun c => absurd c (by omega))
      refine J_iload_4 dX7_showsOf_109 ?_
      refine J_aload_0 dX7_showsOf_111 ?_
      refine J_get dX7_showsOf_112 fl_X7_19 h0 rfl ?_
      refine J_iload_6 dX7_showsOf_115 ?_
      refine J_iald dX7_showsOf_117 a2 rfl (by omega) (by omega) ?_
      refine J_topi (b := nI (de D l e 2)) (hF l e 2 hl (by omega) (by decide)) ?_
      first | refine J_iaddN dX7_showsOf_118 ?_ | refine J_iadd dX7_showsOf_118 ?_
      refine J_istore_4 dX7_showsOf_119 (Nat.le_of_ble_eq_true rfl) rfl ?_
      first | refine J_inc_5 dX7_showsOf_121 (Nat.le_of_ble_eq_true rfl) rfl ?_ | refine J_iinc_5 dX7_showsOf_121 rfl (Nat.le_of_ble_eq_true rfl) rfl ?_
      refine J_goto (tgt := 6) dX7_showsOf_124 (by decide) ?_
      exact ih (e + 1) _ _ rfl (by omega) (Nat.le_of_not_lt hq) (fun j hj => by by_cases z : j = e; (rw [z]; exact hq); exact hn j (by omega)) hr
theorem m_showsOf (p : mdAt h D tb F) {l f w : Nat} (hl : l < 2) (hf : f < 4000) (hw : w < 4) : CtI X mX7_showsOf 1 [.ref 51, .int (nI l), .int (nI f), .int (nI w)] h (sShows D l f w) := by
  refine Ct_of jmX7_showsOf [some (.ref 51), some (.int (nI l)), some (.int (nI f)), some (.int (nI w)), none, none, none, none] (Nat.le_of_ble_eq_true rfl) rfl ?_
  show J X RX7 cX7_showsOf 8 _ (some .int) _ 0 _ _ _
  refine J_iconst (v := nI 0) dX7_showsOf_0 (by decide) ?_
  refine J_istore_4 dX7_showsOf_1 (Nat.le_of_ble_eq_true rfl) rfl ?_
  refine J_iconst (v := nI 0) dX7_showsOf_3 (by decide) ?_
  refine J_istore_5 dX7_showsOf_4 (Nat.le_of_ble_eq_true rfl) rfl ?_
  exact l_mshows p hl hf hw (dn D l) 0 none none rfl (by omega) (Nat.zero_le _) (fun j hj => by omega) rfl
theorem m_shows_bad {l f w : Int32} (hb : ¬ ((∃ j, j < 2 ∧ l = nI j) ∧ (∃ k, k < 4000 ∧ f = nI k) ∧ ∃ u, u < 4 ∧ w = nI u)) : CtI X mX7_shows 2 [.ref 51, .int l, .int f, .int w] h (-2) := by
  refine Ct_of jmX7_shows [some (.ref 51), some (.int l), some (.int f), some (.int w)] (Nat.le_of_ble_eq_true rfl) rfl ?_
  show J X RX7 cX7_shows 4 _ (some .int) _ 0 _ _ _
  rcases ix_cases l 2 (by decide) with ⟨j, hj, rfl⟩ | hl
  · rcases ix_cases f 4000 (by decide) with ⟨k, hk, rfl⟩ | hf
    · rcases ix_cases w 4 (by decide) with ⟨u, hu, rfl⟩ | hw
      · exact absurd ⟨⟨j, hj, rfl⟩, ⟨k, hk, rfl⟩, u, hu, rfl⟩ hb
      · refine J_iload_1 dX7_shows_0 ?_
        refine J_cS1i dX7_shows_1 jmX7_isList ms_X7_82 (Nat.le_of_ble_eq_true rfl) (by decide) (m_listT hj) ?_
        refine J_if_eq (tgt := 37) dX7_shows_4 (by decide) (fun c => absurd c (by decide)) (fun _ => ?_)
        refine J_iload_2 dX7_shows_7 ?_
        refine J_iconst (v := nI 0) dX7_shows_8 (by decide) ?_
        refine J_sipush (v := nI 3999) dX7_shows_9 (by decide) ?_
        refine J_cS3i dX7_shows_12 jmX7_in ms_X7_69 (Nat.le_of_ble_eq_true rfl) (by decide) (m_inT (by omega) (by omega) (by decide)) ?_
        refine J_if_eq (tgt := 37) dX7_shows_15 (by decide) (fun c => absurd c (by decide)) (fun _ => ?_)
        refine J_iload_3 dX7_shows_18 ?_
        refine J_iconst (v := nI 0) dX7_shows_19 (by decide) ?_
        refine J_iconst (v := nI 3) dX7_shows_20 (by decide) ?_
        refine J_cS3i dX7_shows_21 jmX7_in ms_X7_69 (Nat.le_of_ble_eq_true rfl) (by decide) (m_inB (n := 3) (by decide) hw) ?_
        refine J_if_eq (tgt := 37) dX7_shows_24 (by decide) (fun _ => ?_) (fun c => absurd (by decide) c)
        refine J_bipush (v := -2) dX7_shows_37 (by decide) ?_
        exact J_iret dX7_shows_39 rfl (⟨rfl, rfl⟩)
    · refine J_iload_1 dX7_shows_0 ?_
      refine J_cS1i dX7_shows_1 jmX7_isList ms_X7_82 (Nat.le_of_ble_eq_true rfl) (by decide) (m_listT hj) ?_
      refine J_if_eq (tgt := 37) dX7_shows_4 (by decide) (fun c => absurd c (by decide)) (fun _ => ?_)
      refine J_iload_2 dX7_shows_7 ?_
      refine J_iconst (v := nI 0) dX7_shows_8 (by decide) ?_
      refine J_sipush (v := nI 3999) dX7_shows_9 (by decide) ?_
      refine J_cS3i dX7_shows_12 jmX7_in ms_X7_69 (Nat.le_of_ble_eq_true rfl) (by decide) (m_inB (n := 3999) (by decide) hf) ?_
      refine J_if_eq (tgt := 37) dX7_shows_15 (by decide) (fun _ => ?_) (fun c => absurd (by decide) c)
      refine J_bipush (v := -2) dX7_shows_37 (by decide) ?_
      exact J_iret dX7_shows_39 rfl (⟨rfl, rfl⟩)
  · refine J_iload_1 dX7_shows_0 ?_
    refine J_cS1i dX7_shows_1 jmX7_isList ms_X7_82 (Nat.le_of_ble_eq_true rfl) (by decide) (m_listF hl) ?_
    refine J_if_eq (tgt := 37) dX7_shows_4 (by decide) (fun _ => ?_) (fun c => absurd (by decide) c)
    refine J_bipush (v := -2) dX7_shows_37 (by decide) ?_
    exact J_iret dX7_shows_39 rfl (⟨rfl, rfl⟩)
theorem m_shows_ok (p : mdAt h D tb F) {l f w : Nat} (hl : l < 2) (hf : f < 4000) (hw : w < 4) : CtI X mX7_shows 2 [.ref 51, .int (nI l), .int (nI f), .int (nI w)] h (sShows D l f w) := by
  have h0 := p.1
  refine Ct_of jmX7_shows [some (.ref 51), some (.int (nI l)), some (.int (nI f)), some (.int (nI w))] (Nat.le_of_ble_eq_true rfl) rfl ?_
  show J X RX7 cX7_shows 4 _ (some .int) _ 0 _ _ _
  refine J_iload_1 dX7_shows_0 ?_
  refine J_cS1i dX7_shows_1 jmX7_isList ms_X7_82 (Nat.le_of_ble_eq_true rfl) (by decide) (m_listT hl) ?_
  refine J_if_eq (tgt := 37) dX7_shows_4 (by decide) (fun c => absurd c (by decide)) (fun _ => ?_)
  refine J_iload_2 dX7_shows_7 ?_
  refine J_iconst (v := nI 0) dX7_shows_8 (by decide) ?_
  refine J_sipush (v := nI 3999) dX7_shows_9 (by decide) ?_
  refine J_cS3i dX7_shows_12 jmX7_in ms_X7_69 (Nat.le_of_ble_eq_true rfl) (by decide) (m_inT (by omega) (by omega) (by decide)) ?_
  refine J_if_eq (tgt := 37) dX7_shows_15 (by decide) (fun c => absurd c (by decide)) (fun _ => ?_)
  refine J_iload_3 dX7_shows_18 ?_
  refine J_iconst (v := nI 0) dX7_shows_19 (by decide) ?_
  refine J_iconst (v := nI 3) dX7_shows_20 (by decide) ?_
  refine J_cS3i dX7_shows_21 jmX7_in ms_X7_69 (Nat.le_of_ble_eq_true rfl) (by decide) (m_inT (by omega) (by omega) (by decide)) ?_
  refine J_if_eq (tgt := 37) dX7_shows_24 (by decide) (fun c => absurd c (by decide)) (fun _ => ?_)
  refine J_aload_0 dX7_shows_27 ?_
  refine J_iload_1 dX7_shows_28 ?_
  refine J_iload_2 dX7_shows_29 ?_
  refine J_iload_3 dX7_shows_30 ?_
  refine J_cV3i dX7_shows_31 jmX7_showsOf mv_X7_121 h0 rfl (Nat.le_of_ble_eq_true rfl) (by decide) (m_showsOf p hl hf hw) ?_
  refine J_goto (tgt := 39) dX7_shows_34 (by decide) ?_
  exact J_iret dX7_shows_39 rfl (⟨rfl, rfl⟩)
end
/-! how often and where first: by counting -/
theorem fal_iff {x : Nat → Nat} (ok : edOk x) {d j : Nat} (hj : j < x 2) : j < fal x d ↔ j * x 3 / x 4 < d := by
  obtain ⟨o0, o1, o2, o3, o4, o5, o6⟩ := ok
  unfold fal
  by_cases h0 : d = 0
  · rw [if_pos h0, h0]
    exact ⟨fun z => absurd z (Nat.not_lt_zero _), fun z => absurd z (Nat.not_lt_zero _)⟩
  · rw [if_neg h0]
    by_cases h3 : x 3 = 0
    · rw [if_pos h3, h3, Nat.mul_zero, Nat.zero_div]; omega
    · have hd : j * x 3 / x 4 < d ↔ j * x 3 < d * x 4 := Nat.div_lt_iff_lt_mul (by omega)
      rw [if_neg h3, hd]
      have c := @ceil_lt (d * x 4) (x 3) j (by omega)
      split
      · exact c
      · rw [← c]; omega
theorem fr_iff {x : Nat → Nat} (ok : edOk x) {f j : Nat} (hj : j < x 2) (hf : x 1 ≤ f) : fr x j = f ↔ fal x (f - x 1) ≤ j ∧ j < fal x (f - x 1 + 1) := by
  have h1 := fal_iff ok (d := f - x 1) hj
  have h2 := fal_iff ok (d := f - x 1 + 1) hj
  unfold fr
  rw [h2]
  constructor
  · intro e
    refine ⟨Nat.le_of_not_lt fun z => ?_, by omega⟩
    have := h1.mp z
    omega
  · rintro ⟨e1, e2⟩
    have : ¬ j * x 3 / x 4 < f - x 1 := fun z => absurd (h1.mpr z) (Nat.not_lt.mpr e1)
    omega
def cnk (x : Nat → Nat) (f k m : Nat) : Nat := match m with
  | 0 => 0
  | m + 1 => (if fr x k = f then 1 else 0) + cnk x f (k + 1) m
def fsk (x : Nat → Nat) (f k m : Nat) : Option Nat := match m with
  | 0 => none
  | m + 1 => if fr x k = f then some k else fsk x f (k + 1) m
theorem cnk_iv {x : Nat → Nat} {f a b : Nat} : ∀ (m k : Nat), (∀ j, k ≤ j → j < k + m → (fr x j = f ↔ a ≤ j ∧ j < b)) → cnk x f k m = min b (k + m) - max a k := by
  intro m
  induction m with
  | zero => intro k _; show 0 = _; omega
  | succ m ih =>
    intro k h
    rw [cnk, ih (k + 1) (fun j h1 h2 => h j (by omega) (by omega))]
    by_cases c : fr x k = f
    · rw [if_pos c]
      have := (h k (by omega) (by omega)).mp c
      omega
    · rw [if_neg c]
      have : ¬ (a ≤ k ∧ k < b) := fun z => c ((h k (by omega) (by omega)).mpr z)
      omega
theorem fsk_iv {x : Nat → Nat} {f a b : Nat} : ∀ (m k : Nat), (∀ j, k ≤ j → j < k + m → (fr x j = f ↔ a ≤ j ∧ j < b)) → fsk x f k m = if max a k < min b (k + m) then some (max a k) else none := by
  intro m
  induction m with
  | zero => intro k _; rw [if_neg (by omega)]; rfl
  | succ m ih =>
    intro k h
    rw [fsk, ih (k + 1) (fun j h1 h2 => h j (by omega) (by omega))]
    by_cases c : fr x k = f
    · rw [if_pos c]
      have := (h k (by omega) (by omega)).mp c
      rw [if_pos (by omega), show max a k = k by omega]
    · rw [if_neg c]
      have : ¬ (a ≤ k ∧ k < b) := fun z => c ((h k (by omega) (by omega)).mpr z)
      by_cases d : max a (k + 1) < min b (k + 1 + m)
      · rw [if_pos d, if_pos (by omega), show max a k = max a (k + 1) by omega]
      · rw [if_neg d, if_neg (by omega)]
theorem cnk_tm {x : Nat → Nat} (ok : edOk x) (f : Nat) : cnk x f 0 (x 2) = tm x f := by
  unfold tm
  by_cases hf : f < x 1
  · rw [if_pos hf, cnk_iv (a := 0) (b := 0) (x 2) 0 (fun j _ _ => ⟨fun e => by have := @fr_ge x j; omega, fun z => by omega⟩)]
    omega
  · rw [if_neg hf, cnk_iv (x 2) 0 (fun j _ h2 => fr_iff ok (by omega) (by omega))]
    have := @fal_le x (f - x 1 + 1)
    omega
theorem fsk_fs {x : Nat → Nat} (ok : edOk x) (f : Nat) : fsk x f 0 (x 2) = fs x f := by
  unfold fs
  by_cases hf : f < x 1
  · rw [fsk_iv (a := 0) (b := 0) (x 2) 0 (fun j _ _ => ⟨fun e => by have := @fr_ge x j; omega, fun z => by omega⟩), if_neg (by omega), if_neg]
    rintro ⟨-, e⟩
    have := @fr_ge x (fal x (f - x 1))
    omega
  · rw [fsk_iv (x 2) 0 (fun j _ h2 => fr_iff ok (by omega) (by omega))]
    have h1 := @fal_le x (f - x 1 + 1)
    have h3 := @fal_mono x (f - x 1) (f - x 1 + 1) (by omega)
    by_cases c : fal x (f - x 1) < x 2 ∧ fr x (fal x (f - x 1)) = f
    · have h4 := (fr_iff ok c.1 (by omega)).mp c.2
      rw [if_pos c, if_pos (by omega), show max (fal x (f - x 1)) 0 = fal x (f - x 1) by omega]
    · rw [if_neg c, if_neg]
      intro z
      have h5 : fal x (f - x 1) < x 2 := by omega
      exact c ⟨h5, (fr_iff ok h5 (by omega)).mpr ⟨Nat.le_refl _, by omega⟩⟩
