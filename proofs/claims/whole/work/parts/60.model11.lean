section
variable {X : Cx} {h : HF} {D : DS} {tb : Int32} {F : Nat → Nat → Int32}
theorem mbg_le (p : mdAt h D tb F) {l e : Nat} (hl : l < 2) (he : e ≤ dn D l) : bg (de D l) e ≤ 4000 := by
  have h8 := p.2.2.2.2.2.2.2.2.2.2.2.2.2.1 l hl
  have := bg_le2 (fun e he => p.2.2.2.2.2.2.2.2.2.2.2.2.2.2.1 l e hl he) e he
  omega
theorem m_kindOf (q : mqAt h D F) {e : Nat} (he : e < dn D 1) : CtI X mX7_kindOf 1 [.ref 51, .int (nI e)] h (nI (sKind D e)) := by
  obtain ⟨p, f, a65, hf⟩ := q
  obtain ⟨h0, -, ⟨a0, a1, a2, a3, a4⟩, hF, -⟩ := id p
  obtain ⟨hE, ok1, h8⟩ := mdE p (by decide : 1 < 2) he
  have v := hf e (by omega)
  refine Ct_of jmX7_kindOf [some (.ref 51), some (.int (nI e)), none] (Nat.le_of_ble_eq_true rfl) rfl ?_
  show J X RX7 cX7_kindOf 3 _ (some .int) _ 0 _ _ _
  rcases oP_val D e with hq | ⟨i, hi, hq⟩
  · rw [show sKind D e = 0 from if_pos hq]
    refine J_aload_0 dX7_kindOf_0 ?_
    refine J_get dX7_kindOf_1 fl_X7_49 h0 rfl ?_
    refine J_iload_1 dX7_kindOf_4 ?_
    refine J_iald dX7_kindOf_5 a65 rfl (by omega) (by omega) ?_
    refine J_topi (b := -1) (v.trans hq) ?_
    refine J_istore_2 dX7_kindOf_6 (Nat.le_of_ble_eq_true rfl) rfl ?_
    refine J_iload_2 dX7_kindOf_7 ?_
    refine J_iconst (v := -1) dX7_kindOf_8 (by decide) ?_
    refine J_icmp_ne (tgt := 14) dX7_kindOf_9 (by decide) (fun c => absurd c (fun z => z rfl)) (fun _ => ?_)
    refine J_iconst (v := nI 0) dX7_kindOf_12 (by decide) ?_
    exact J_iret dX7_kindOf_13 rfl (⟨rfl, rfl⟩)
  · have hne : ¬ oP D e = -1 := by rw [hq]; exact oN_ne (by have := p.2.2.2.2.2.2.2.2.2.2.2.2.2.1 0 (by decide); omega)
    obtain ⟨hE0, ok0, h80⟩ := mdE p (by decide : 0 < 2) hi
    have hcl : (oP D e).toNatClampNeg = i := by rw [hq]; exact nI_clamp (by omega)
    have b0 := mbg_le p (by decide : 0 < 2) (e := i) (by omega)
    have b1 := mbg_le p (by decide : 1 < 2) (e := e) (by omega)
    have i3 := ok0.2.2.2.1
    have e3 := ok1.2.2.2.1
    have es : sKind D e = if ¬ de D 1 e 2 = de D 0 i 2 then 3 else if bg (de D 1) e = bg (de D 0) i then 1 else 2 := by unfold sKind; rw [if_neg hne, hcl]
    rw [es]
    have x2 : F 2 i = nI (de D 0 i 2) := by have := hF 0 i 2 (by decide) hi (by decide); rwa [show 8 * 0 + i = i by omega] at this
    have y2 : F 2 (8 + e) = nI (de D 1 e 2) := by have := hF 1 e 2 (by decide) he (by decide); rwa [show 8 * 1 + e = 8 + e by omega] at this
    refine J_aload_0 dX7_kindOf_0 ?_
    refine J_get dX7_kindOf_1 fl_X7_49 h0 rfl ?_
    refine J_iload_1 dX7_kindOf_4 ?_
    refine J_iald dX7_kindOf_5 a65 rfl (by omega) (by omega) ?_
    refine J_topi (b := nI i) (v.trans hq) ?_
    refine J_istore_2 dX7_kindOf_6 (Nat.le_of_ble_eq_true rfl) rfl ?_
    refine J_iload_2 dX7_kindOf_7 ?_
    refine J_iconst (v := -1) dX7_kindOf_8 (by decide) ?_
    refine J_icmp_ne (tgt := 14) dX7_kindOf_9 (by decide) (fun _ => ?_) (fun c => absurd c (oN_ne (by omega)))
    refine J_aload_0 dX7_kindOf_14 ?_
    refine J_get dX7_kindOf_15 fl_X7_19 h0 rfl ?_
    refine J_iload_2 dX7_kindOf_18 ?_
    refine J_iald dX7_kindOf_19 a2 rfl (by omega) (by omega) ?_
    refine J_topi (b := nI (de D 0 i 2)) (x2) ?_
    refine J_aload_0 dX7_kindOf_20 ?_
    refine J_get dX7_kindOf_21 fl_X7_19 h0 rfl ?_
    refine J_bipush (v := nI 8) dX7_kindOf_24 (by decide) ?_
    refine J_iload_1 dX7_kindOf_26 ?_
    first | refine J_iaddN dX7_kindOf_27 ?_ | refine J_iadd dX7_kindOf_27 ?_
    refine J_iald dX7_kindOf_28 a2 rfl (by omega) (by omega) ?_
    refine J_topi (b := nI (de D 1 e 2)) (y2) ?_
    first | refine J_icmp_eqN (tgt := 36) dX7_kindOf_29 (by decide) (by omega) (by omega) (fun c29 => ?_) (fun c29 => ?_) | refine J_icmp_eq (tgt := 36) dX7_kindOf_29 (by decide) (fun c29 => ?_) (fun c29 => ?_)
    · refine J_aload_0 dX7_kindOf_36 ?_
      refine J_iconst (v := nI 0) dX7_kindOf_37 (by decide) ?_
      refine J_iload_2 dX7_kindOf_38 ?_
      refine J_cV2i dX7_kindOf_39 jmX7_beginOf mv_X7_111 h0 rfl (Nat.le_of_ble_eq_true rfl) (by decide) (m_begin p (l := 0) (by decide) (by omega)) ?_
      refine J_aload_0 dX7_kindOf_42 ?_
      refine J_iconst (v := nI 1) dX7_kindOf_43 (by decide) ?_
      refine J_iload_1 dX7_kindOf_44 ?_
      refine J_cV2i dX7_kindOf_45 jmX7_beginOf mv_X7_111 h0 rfl (Nat.le_of_ble_eq_true rfl) (by decide) (m_begin p (l := 1) (by decide) (by omega)) ?_
      first | refine J_icmp_neN (tgt := 55) dX7_kindOf_48 (by decide) (by omega) (by omega) (fun c48 => ?_) (fun c48 => ?_) | refine J_icmp_ne (tgt := 55) dX7_kindOf_48 (by decide) (fun c48 => ?_) (fun c48 => ?_)
      · refine J_iconst (v := nI 2) dX7_kindOf_55 (by decide) ?_
        exact J_iret dX7_kindOf_56 rfl (⟨by first | rw [if_pos (fun z => c29 z.symm)] | rw [if_neg (fun z => z c29.symm), if_pos c48.symm] | rw [if_neg (fun z => z c29.symm), if_neg (fun z => c48 z.symm)], rfl⟩)
      · refine J_iconst (v := nI 1) dX7_kindOf_51 (by decide) ?_
        refine J_goto (tgt := 56) dX7_kindOf_52 (by decide) ?_
        exact J_iret dX7_kindOf_56 rfl (⟨by first | rw [if_pos (fun z => c29 z.symm)] | rw [if_neg (fun z => z c29.symm), if_pos c48.symm] | rw [if_neg (fun z => z c29.symm), if_neg (fun z => c48 z.symm)], rfl⟩)
    · refine J_iconst (v := nI 3) dX7_kindOf_32 (by decide) ?_
      refine J_goto (tgt := 56) dX7_kindOf_33 (by decide) ?_
      exact J_iret dX7_kindOf_56 rfl (⟨by first | rw [if_pos (fun z => c29 z.symm)] | rw [if_neg (fun z => z c29.symm), if_pos c48.symm] | rw [if_neg (fun z => z c29.symm), if_neg (fun z => c48 z.symm)], rfl⟩)
theorem m_compareOf (p : mdAt h D tb F) {e w : Nat} (he : e < dn D 1) (hw : w < 3) : Ct X mX7_compareOf 2 [.ref 51, .int (nI e), .int (nI w)] h (fun r h' => r = some (.int (sCmp D e w)) ∧ moAt h' D ∧ offB h h' 51 71) := by
  have h0 := p.1
  obtain ⟨hE, ok1, h8⟩ := mdE p (by decide : 1 < 2) he
  have h80 := p.2.2.2.2.2.2.2.2.2.2.2.2.2.1 0 (by decide)
  refine Ct_of jmX7_compareOf [some (.ref 51), some (.int (nI e)), some (.int (nI w)), none] (Nat.le_of_ble_eq_true rfl) rfl ?_
  show J X RX7 cX7_compareOf 4 _ (some .int) _ 0 _ _ _
  rcases oP_val D e with hq | ⟨i, hi, hq⟩
  · have es : sLater D e = 0 := if_pos hq
    refine J_aload_0 dX7_compareOf_0 ?_
    refine J_cV0 dX7_compareOf_1 jmX7_compares mv_X7_206 h0 rfl (Nat.le_of_ble_eq_true rfl) (by decide) (m_compares p) (fun r h' q => ?_)
    obtain ⟨rfl, mq, o2⟩ := q
    obtain ⟨p2, f, a65, hf⟩ := id mq
    have k0 := p2.1
    have v := (hf e (by omega)).trans hq
    refine J_aload_0 dX7_compareOf_4 ?_
    refine J_get dX7_compareOf_5 fl_X7_49 k0 rfl ?_
    refine J_iload_1 dX7_compareOf_8 ?_
    refine J_iald dX7_compareOf_9 a65 rfl (by omega) (by omega) ?_
    refine J_topi (b := -1) (v) ?_
    refine J_istore_3 dX7_compareOf_10 (Nat.le_of_ble_eq_true rfl) rfl ?_
    refine J_iload_2 dX7_compareOf_11 ?_
    first | refine J_if_neB (tgt := 23) dX7_compareOf_12 (by decide) (fun c12 => ?_) (fun c12 => ?_) | refine J_if_neN (tgt := 23) dX7_compareOf_12 (by decide) (by omega) (fun c12 => ?_) (fun c12 => ?_) | refine J_if_ne (tgt := 23) dX7_compareOf_12 (by decide) (fun c12 => ?_) (fun c12 => ?_)
    · refine J_iload_2 dX7_compareOf_23 ?_
      refine J_iconst (v := nI 1) dX7_compareOf_24 (by decide) ?_
      first | refine J_icmp_neN (tgt := 32) dX7_compareOf_25 (by decide) (by omega) (by omega) (fun c25 => ?_) (fun c25 => ?_) | refine J_icmp_ne (tgt := 32) dX7_compareOf_25 (by decide) (fun c25 => ?_) (fun c25 => ?_)
      · refine J_iload_3 dX7_compareOf_32 ?_
        refine J_iconst (v := -1) dX7_compareOf_33 (by decide) ?_
        refine J_icmp_ne (tgt := 41) dX7_compareOf_34 (by decide) (fun c => absurd c (fun z => z rfl)) (fun _ => ?_)
        refine J_iconst (v := nI 0) dX7_compareOf_37 (by decide) ?_
        refine J_goto (tgt := 54) dX7_compareOf_38 (by decide) ?_
        exact J_iret dX7_compareOf_54 rfl (⟨by unfold sCmp; first | rw [if_pos c12] | rw [if_neg (Nat.ne_of_gt c12), if_pos c25, hq] | rw [if_neg (Nat.ne_of_gt c12), if_neg c25, es]; rfl, ⟨_, _, p2⟩, o2⟩)
      · refine J_iload_3 dX7_compareOf_28 ?_
        refine J_goto (tgt := 54) dX7_compareOf_29 (by decide) ?_
        exact J_iret dX7_compareOf_54 rfl (⟨by unfold sCmp; first | rw [if_pos c12] | rw [if_neg (Nat.ne_of_gt c12), if_pos c25, hq] | rw [if_neg (Nat.ne_of_gt c12), if_neg c25, es]; rfl, ⟨_, _, p2⟩, o2⟩)
    · refine J_aload_0 dX7_compareOf_15 ?_
      refine J_iload_1 dX7_compareOf_16 ?_
      refine J_cV1i dX7_compareOf_17 jmX7_kindOf mv_X7_209 k0 rfl (Nat.le_of_ble_eq_true rfl) (by decide) (m_kindOf mq he) ?_
      refine J_goto (tgt := 54) dX7_compareOf_20 (by decide) ?_
      exact J_iret dX7_compareOf_54 rfl (⟨by unfold sCmp; first | rw [if_pos c12] | rw [if_neg (Nat.ne_of_gt c12), if_pos c25, hq] | rw [if_neg (Nat.ne_of_gt c12), if_neg c25, es]; rfl, ⟨_, _, p2⟩, o2⟩)
  · have hne : ¬ oP D e = -1 := by rw [hq]; exact oN_ne (by omega)
    have hcl : (oP D e).toNatClampNeg = i := by rw [hq]; exact nI_clamp (by omega)
    have es : sLater D e = nI (bg (de D 1) e) - nI (bg (de D 0) i) := by unfold sLater; rw [if_neg hne, hcl]
    refine J_aload_0 dX7_compareOf_0 ?_
    refine J_cV0 dX7_compareOf_1 jmX7_compares mv_X7_206 h0 rfl (Nat.le_of_ble_eq_true rfl) (by decide) (m_compares p) (fun r h' q => ?_)
    obtain ⟨rfl, mq, o2⟩ := q
    obtain ⟨p2, f, a65, hf⟩ := id mq
    have k0 := p2.1
    have v := (hf e (by omega)).trans hq
    refine J_aload_0 dX7_compareOf_4 ?_
    refine J_get dX7_compareOf_5 fl_X7_49 k0 rfl ?_
    refine J_iload_1 dX7_compareOf_8 ?_
    refine J_iald dX7_compareOf_9 a65 rfl (by omega) (by omega) ?_
    refine J_topi (b := nI i) (v) ?_
    refine J_istore_3 dX7_compareOf_10 (Nat.le_of_ble_eq_true rfl) rfl ?_
    refine J_iload_2 dX7_compareOf_11 ?_
    first | refine J_if_neB (tgt := 23) dX7_compareOf_12 (by decide) (fun c12 => ?_) (fun c12 => ?_) | refine J_if_neN (tgt := 23) dX7_compareOf_12 (by decide) (by omega) (fun c12 => ?_) (fun c12 => ?_) | refine J_if_ne (tgt := 23) dX7_compareOf_12 (by decide) (fun c12 => ?_) (fun c12 => ?_)
    · refine J_iload_2 dX7_compareOf_23 ?_
      refine J_iconst (v := nI 1) dX7_compareOf_24 (by decide) ?_
      first | refine J_icmp_neN (tgt := 32) dX7_compareOf_25 (by decide) (by omega) (by omega) (fun c25 => ?_) (fun c25 => ?_) | refine J_icmp_ne (tgt := 32) dX7_compareOf_25 (by decide) (fun c25 => ?_) (fun c25 => ?_)
      · refine J_iload_3 dX7_compareOf_32 ?_
        refine J_iconst (v := -1) dX7_compareOf_33 (by decide) ?_
        refine J_icmp_ne (tgt := 41) dX7_compareOf_34 (by decide) (fun _ => ?_) (fun c => absurd c (oN_ne (by omega)))
        refine J_aload_0 dX7_compareOf_41 ?_
        refine J_iconst (v := nI 1) dX7_compareOf_42 (by decide) ?_
        refine J_iload_1 dX7_compareOf_43 ?_
        refine J_cV2i dX7_compareOf_44 jmX7_beginOf mv_X7_111 k0 rfl (Nat.le_of_ble_eq_true rfl) (by decide) (m_begin p2 (l := 1) (by decide) (by omega)) ?_
        refine J_aload_0 dX7_compareOf_47 ?_
        refine J_iconst (v := nI 0) dX7_compareOf_48 (by decide) ?_
        refine J_iload_3 dX7_compareOf_49 ?_
        refine J_cV2i dX7_compareOf_50 jmX7_beginOf mv_X7_111 k0 rfl (Nat.le_of_ble_eq_true rfl) (by decide) (m_begin p2 (l := 0) (by decide) (by omega)) ?_
        refine J_isub dX7_compareOf_53 ?_
        exact J_iret dX7_compareOf_54 rfl (⟨by unfold sCmp; first | rw [if_pos c12] | rw [if_neg (Nat.ne_of_gt c12), if_pos c25, hq] | rw [if_neg (Nat.ne_of_gt c12), if_neg c25, es], ⟨_, _, p2⟩, o2⟩)
      · refine J_iload_3 dX7_compareOf_28 ?_
        refine J_goto (tgt := 54) dX7_compareOf_29 (by decide) ?_
        exact J_iret dX7_compareOf_54 rfl (⟨by unfold sCmp; first | rw [if_pos c12] | rw [if_neg (Nat.ne_of_gt c12), if_pos c25, hq] | rw [if_neg (Nat.ne_of_gt c12), if_neg c25, es], ⟨_, _, p2⟩, o2⟩)
    · refine J_aload_0 dX7_compareOf_15 ?_
      refine J_iload_1 dX7_compareOf_16 ?_
      refine J_cV1i dX7_compareOf_17 jmX7_kindOf mv_X7_209 k0 rfl (Nat.le_of_ble_eq_true rfl) (by decide) (m_kindOf mq he) ?_
      refine J_goto (tgt := 54) dX7_compareOf_20 (by decide) ?_
      exact J_iret dX7_compareOf_54 rfl (⟨by unfold sCmp; first | rw [if_pos c12] | rw [if_neg (Nat.ne_of_gt c12), if_pos c25, hq] | rw [if_neg (Nat.ne_of_gt c12), if_neg c25, es], ⟨_, _, p2⟩, o2⟩)
theorem m_cmp_bad (p : mdAt h D tb F) {e w : Int32} (hb : ¬ ∃ k u, k < dn D 1 ∧ u < 3 ∧ e = nI k ∧ w = nI u) : CtI X mX7_compare 3 [.ref 51, .int e, .int w] h (-2) := by
  have h0 := p.1
  refine Ct_of jmX7_compare [some (.ref 51), some (.int e), some (.int w)] (Nat.le_of_ble_eq_true rfl) rfl ?_
  show J X RX7 cX7_compare 3 _ (some .int) _ 0 _ _ _
  by_cases hE : ∃ j k, j < 2 ∧ k < dn D j ∧ nI 1 = nI j ∧ e = nI k
  · obtain ⟨j, k, hj, hk, h1, rfl⟩ := hE
    have hj1 : 1 = j := (nI_eq (by decide) (by omega)).mp h1
    subst hj1
    have hw : ¬ (0 ≤ w ∧ w < nI 3) := fun z => by
      rcases ix_cases w 3 (by decide) with ⟨u, hu, rfl⟩ | q
      · exact hb ⟨k, u, hk, hu, rfl, rfl⟩
      · exact q z
    refine J_aload_0 dX7_compare_0 ?_
    refine J_iconst (v := nI 1) dX7_compare_1 (by decide) ?_
    refine J_iload_1 dX7_compare_2 ?_
    refine J_cV2i dX7_compare_3 jmX7_isEdit mv_X7_89 h0 rfl (Nat.le_of_ble_eq_true rfl) (by decide) (m_isEditT p hj hk) ?_
    refine J_if_eq (tgt := 27) dX7_compare_6 (by decide) (fun c => absurd c (by decide)) (fun _ => ?_)
    refine J_iload_2 dX7_compare_9 ?_
    refine J_iconst (v := nI 0) dX7_compare_10 (by decide) ?_
    refine J_iconst (v := nI 2) dX7_compare_11 (by decide) ?_
    refine J_cS3i dX7_compare_12 jmX7_in ms_X7_69 (Nat.le_of_ble_eq_true rfl) (by decide) (m_inB (n := 2) (by decide) hw) ?_
    refine J_if_eq (tgt := 27) dX7_compare_15 (by decide) (fun _ => ?_) (fun c => absurd (by decide) c)
    refine J_bipush (v := -2) dX7_compare_27 (by decide) ?_
    exact J_iret dX7_compare_29 rfl (⟨rfl, rfl⟩)
  · refine J_aload_0 dX7_compare_0 ?_
    refine J_iconst (v := nI 1) dX7_compare_1 (by decide) ?_
    refine J_iload_1 dX7_compare_2 ?_
    refine J_cV2i dX7_compare_3 jmX7_isEdit mv_X7_89 h0 rfl (Nat.le_of_ble_eq_true rfl) (by decide) (m_isEditF p hE) ?_
    refine J_if_eq (tgt := 27) dX7_compare_6 (by decide) (fun _ => ?_) (fun c => absurd (by decide) c)
    refine J_bipush (v := -2) dX7_compare_27 (by decide) ?_
    exact J_iret dX7_compare_29 rfl (⟨rfl, rfl⟩)
theorem m_cmp_ok (p : mdAt h D tb F) {e w : Nat} (he : e < dn D 1) (hw : w < 3) : Ct X mX7_compare 3 [.ref 51, .int (nI e), .int (nI w)] h (fun r h' => r = some (.int (sCmp D e w)) ∧ moAt h' D ∧ offB h h' 51 71) := by
  have h0 := p.1
  refine Ct_of jmX7_compare [some (.ref 51), some (.int (nI e)), some (.int (nI w))] (Nat.le_of_ble_eq_true rfl) rfl ?_
  show J X RX7 cX7_compare 3 _ (some .int) _ 0 _ _ _
  refine J_aload_0 dX7_compare_0 ?_
  refine J_iconst (v := nI 1) dX7_compare_1 (by decide) ?_
  refine J_iload_1 dX7_compare_2 ?_
  refine J_cV2i dX7_compare_3 jmX7_isEdit mv_X7_89 h0 rfl (Nat.le_of_ble_eq_true rfl) (by decide) (m_isEditT p (l := 1) (by decide) he) ?_
  refine J_if_eq (tgt := 27) dX7_compare_6 (by decide) (fun c => absurd c (by decide)) (fun _ => ?_)
  refine J_iload_2 dX7_compare_9 ?_
  refine J_iconst (v := nI 0) dX7_compare_10 (by decide) ?_
  refine J_iconst (v := nI 2) dX7_compare_11 (by decide) ?_
  refine J_cS3i dX7_compare_12 jmX7_in ms_X7_69 (Nat.le_of_ble_eq_true rfl) (by decide) (m_inT (by omega) (by omega) (by decide)) ?_
  refine J_if_eq (tgt := 27) dX7_compare_15 (by decide) (fun c => absurd c (by decide)) (fun _ => ?_)
  refine J_aload_0 dX7_compare_18 ?_
  refine J_iload_1 dX7_compare_19 ?_
  refine J_iload_2 dX7_compare_20 ?_
  refine J_cV2 dX7_compare_21 jmX7_compareOf mv_X7_212 h0 rfl (Nat.le_of_ble_eq_true rfl) (by decide) (m_compareOf p he hw) (fun r h' q => ?_)
  obtain ⟨rfl, p2, o2⟩ := q
  refine J_goto (tgt := 29) dX7_compare_24 (by decide) ?_
  exact J_iret dX7_compare_29 rfl (⟨rfl, p2, o2⟩)
theorem m_goneOf (p : mdAt h D tb F) : Ct X mX7_goneOf 2 [.ref 51] h (fun r h' => r = some (.int (sGone D)) ∧ moAt h' D ∧ offB h h' 51 71) := by
  have h0 := p.1
  refine Ct_of jmX7_goneOf [some (.ref 51)] (Nat.le_of_ble_eq_true rfl) rfl ?_
  show J X RX7 cX7_goneOf 1 _ (some .int) _ 0 _ _ _
  refine J_aload_0 dX7_goneOf_0 ?_
  refine J_cV0 dX7_goneOf_1 jmX7_compares mv_X7_206 h0 rfl (Nat.le_of_ble_eq_true rfl) (by decide) (m_compares p) (fun r h' q => ?_)
  obtain ⟨rfl, ⟨p2, f, a65, hf⟩, o2⟩ := q
  obtain ⟨k0, ⟨fm, hm, hm0⟩, -⟩ := id p2
  refine J_iconst (v := nI 1) dX7_goneOf_4 (by decide) ?_
  refine J_aload_0 dX7_goneOf_5 ?_
  refine J_get dX7_goneOf_6 fl_X7_7 k0 rfl ?_
  refine J_iconst (v := nI 0) dX7_goneOf_9 (by decide) ?_
  refine J_iald dX7_goneOf_10 hm rfl (by omega) (by omega) ?_
  refine J_topi (b := nI (dn D 0)) (hm0 0 (by decide)) ?_
  refine J_ishl dX7_goneOf_11 ?_
  refine J_iconst (v := nI 1) dX7_goneOf_12 (by decide) ?_
  refine J_isub dX7_goneOf_13 ?_
  refine J_aload_0 dX7_goneOf_14 ?_
  refine J_get dX7_goneOf_15 fl_X7_196 k0 rfl ?_
  refine J_iconst (v := -1) dX7_goneOf_18 (by decide) ?_
  refine J_ixor dX7_goneOf_19 ?_
  refine J_iand dX7_goneOf_20 ?_
  exact J_iret dX7_goneOf_21 rfl (⟨rfl, ⟨_, _, p2⟩, o2⟩)
theorem m_gone (p : mdAt h D tb F) : Ct X mX7_gone 3 [.ref 51] h (fun r h' => r = some (.int (sGone D)) ∧ moAt h' D ∧ offB h h' 51 71) := by
  have h0 := p.1
  refine Ct_of jmX7_gone [some (.ref 51)] (Nat.le_of_ble_eq_true rfl) rfl ?_
  show J X RX7 cX7_gone 1 _ (some .int) _ 0 _ _ _
  refine J_aload_0 dX7_gone_0 ?_
  refine J_cV0 dX7_gone_1 jmX7_goneOf mv_X7_215 h0 rfl (Nat.le_of_ble_eq_true rfl) (by decide) (m_goneOf p) (fun r h' q => ?_)
  obtain ⟨rfl, p2, o2⟩ := q
  exact J_iret dX7_gone_4 rfl (⟨rfl, p2, o2⟩)
theorem l_mkept {h : HF} {tot : Nat} : ∀ (k e s : Nat) (h1 : HF), e + k = dn D 1 → mqAt h1 D F → s + kpt D e k = tot → offB h h1 51 71 →
    J X RX7 cX7_keptOf 3 2 (some .int) (fun r h' => r = some (.int (nI tot)) ∧ moAt h' D ∧ offB h h' 51 71) 8 [some (.ref 51), some (.int (nI s)), some (.int (nI e))] [] h1 := by
  intro k
  induction k with
  | zero =>
    intro e s h1 he mq hs ho
    obtain ⟨h0, ⟨fm, hm, hm0⟩, -⟩ := id mq.1
    have h8 := mq.1.2.2.2.2.2.2.2.2.2.2.2.2.2.1 1 (by decide)
    have hs : s = tot := hs
    subst hs
    refine J_iload_2 dX7_keptOf_8 ?_
    refine J_aload_0 dX7_keptOf_9 ?_
    refine J_get dX7_keptOf_10 fl_X7_7 h0 rfl ?_
    refine J_iconst (v := nI 1) dX7_keptOf_13 (by decide) ?_
    refine J_iald dX7_keptOf_14 hm rfl (by omega) (by omega) ?_
    refine J_topi (b := nI (dn D 1)) (hm0 1 (by decide)) ?_
    refine J_icmp_geN (tgt := 41) dX7_keptOf_15 (by decide) (by omega) (by omega) (fun _ => ?_) (fun c => absurd c (by omega))
    refine J_iload_1 dX7_keptOf_41 ?_
    exact J_iret dX7_keptOf_42 rfl (⟨rfl, ⟨_, _, mq.1⟩, ho⟩)
  | succ k ih =>
    intro e s h1 he mq hs ho
    obtain ⟨h0, ⟨fm, hm, hm0⟩, -⟩ := id mq.1
    have h8 := mq.1.2.2.2.2.2.2.2.2.2.2.2.2.2.1 1 (by decide)
    have hk3 : sKind D e ≤ 3 := by unfold sKind; split <;> (try split) <;> (try split) <;> omega
    rw [kpt] at hs
    refine J_iload_2 dX7_keptOf_8 ?_
    refine J_aload_0 dX7_keptOf_9 ?_
    refine J_get dX7_keptOf_10 fl_X7_7 h0 rfl ?_
    refine J_iconst (v := nI 1) dX7_keptOf_13 (by decide) ?_
    refine J_iald dX7_keptOf_14 hm rfl (by omega) (by omega) ?_
    refine J_topi (b := nI (dn D 1)) (hm0 1 (by decide)) ?_
    refine J_icmp_geN (tgt := 41) dX7_keptOf_15 (by decide) (by omega) (by omega) (fun c => absurd c (by omega)) (fun _ => ?_)
    refine J_iload_1 dX7_keptOf_18 ?_
    refine J_aload_0 dX7_keptOf_19 ?_
    refine J_iload_2 dX7_keptOf_20 ?_
    refine J_cV1i dX7_keptOf_21 jmX7_kindOf mv_X7_209 h0 rfl (Nat.le_of_ble_eq_true rfl) (by decide) (m_kindOf mq (by omega)) ?_
    refine J_iconst (v := nI 1) dX7_keptOf_24 (by decide) ?_
    first | refine J_icmp_neN (tgt := 32) dX7_keptOf_25 (by decide) (by omega) (by omega) (fun c25 => ?_) (fun c25 => ?_) | refine J_icmp_ne (tgt := 32) dX7_keptOf_25 (by decide) (fun c25 => ?_) (fun c25 => ?_)
    · rw [if_neg c25] at hs
      refine J_iconst (v := nI 0) dX7_keptOf_32 (by decide) ?_
      first | refine J_iaddN dX7_keptOf_33 ?_ | refine J_iadd dX7_keptOf_33 ?_
      refine J_istore_1 dX7_keptOf_34 (Nat.le_of_ble_eq_true rfl) rfl ?_
      first | refine J_inc_2 dX7_keptOf_35 (Nat.le_of_ble_eq_true rfl) rfl ?_ | refine J_iinc_2 dX7_keptOf_35 rfl (Nat.le_of_ble_eq_true rfl) rfl ?_
      refine J_goto (tgt := 8) dX7_keptOf_38 (by decide) ?_
      exact ih (e + 1) _ h1 (by omega) mq (by omega) ho
    · rw [if_pos c25] at hs
      refine J_iconst (v := nI 1) dX7_keptOf_28 (by decide) ?_
      refine J_goto (tgt := 33) dX7_keptOf_29 (by decide) ?_
      first | refine J_iaddN dX7_keptOf_33 ?_ | refine J_iadd dX7_keptOf_33 ?_
      refine J_istore_1 dX7_keptOf_34 (Nat.le_of_ble_eq_true rfl) rfl ?_
      first | refine J_inc_2 dX7_keptOf_35 (Nat.le_of_ble_eq_true rfl) rfl ?_ | refine J_iinc_2 dX7_keptOf_35 rfl (Nat.le_of_ble_eq_true rfl) rfl ?_
      refine J_goto (tgt := 8) dX7_keptOf_38 (by decide) ?_
      exact ih (e + 1) _ h1 (by omega) mq (by omega) ho
theorem m_keptOf (p : mdAt h D tb F) : Ct X mX7_keptOf 2 [.ref 51] h (fun r h' => r = some (.int (nI (kpt D 0 (dn D 1)))) ∧ moAt h' D ∧ offB h h' 51 71) := by
  have h0 := p.1
  refine Ct_of jmX7_keptOf [some (.ref 51), none, none] (Nat.le_of_ble_eq_true rfl) rfl ?_
  show J X RX7 cX7_keptOf 3 _ (some .int) _ 0 _ _ _
  refine J_aload_0 dX7_keptOf_0 ?_
  refine J_cV0 dX7_keptOf_1 jmX7_compares mv_X7_206 h0 rfl (Nat.le_of_ble_eq_true rfl) (by decide) (m_compares p) (fun r h' q => ?_)
  obtain ⟨rfl, mq, o2⟩ := q
  refine J_iconst (v := nI 0) dX7_keptOf_4 (by decide) ?_
  refine J_istore_1 dX7_keptOf_5 (Nat.le_of_ble_eq_true rfl) rfl ?_
  refine J_iconst (v := nI 0) dX7_keptOf_6 (by decide) ?_
  refine J_istore_2 dX7_keptOf_7 (Nat.le_of_ble_eq_true rfl) rfl ?_
  exact l_mkept (dn D 1) 0 0 h' (by omega) mq (Nat.zero_add _) o2
end
