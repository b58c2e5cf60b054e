section
variable {X : Cx} {h : HF} {D : DS} {tb : Int32} {F : Nat → Nat → Int32} {m : Nat → Nat} {V : Nat → Nat → Nat}
theorem l_msav {h : HF} {w : Nat} (hw : w < 2) {fin : Option (Nat × Nat)} : ∀ (k e : Nat) (h1 : HF) (m : Nat → Nat) (V : Nat → Nat → Nat) (s : Option (Nat × Nat)) (o5 o6 : Option Value), lok o5 = true → e + k = dn D 1 → mdAt h1 D tb F → mps h1 m V → (∀ q, s = some q → q.1 < 8 ∧ q.2 < 2 ^ 23) → svk D e k s = fin → offB h h1 60 65 →
    J X RX7 cX7_savingOf 7 3 (some .int) (fun r h' => r = some (.int (if w = 0 then svA fin else svF fin)) ∧ mdAt h' D tb F ∧ offB h h' 60 65) 7 [some (.ref 51), some (.int (nI w)), some (.int (svA s)), some (.int (svF s)), some (.int (nI e)), o5, o6] [] h1 := by
  intro k
  induction k with
  | zero =>
    intro e h1 m V s o5 o6 l5 he p q hs hf ho
    obtain ⟨h0, ⟨fm, hfm, hm0⟩, -⟩ := id p
    have h8 := p.2.2.2.2.2.2.2.2.2.2.2.2.2.1 1 (by decide)
    have hf : s = fin := hf
    subst hf
    refine J_iload_4 dX7_savingOf_7 ?_
    refine J_aload_0 dX7_savingOf_9 ?_
    refine J_get dX7_savingOf_10 fl_X7_7 h0 rfl ?_
    refine J_iconst (v := nI 1) dX7_savingOf_13 (by decide) ?_
    refine J_iald dX7_savingOf_14 hfm rfl (by omega) (by omega) ?_
    refine J_topi (b := nI (dn D 1)) (hm0 1 (by decide)) ?_
    refine J_icmp_geN (tgt := 80) dX7_savingOf_15 (by decide) (by omega) (by omega) (fun _ => ?_) (fun c => absurd c (by omega))
    refine J_iload_1 dX7_savingOf_80 ?_
    first | refine J_if_neB (tgt := 88) dX7_savingOf_81 (by decide) (fun c81 => ?_) (fun c81 => ?_) | refine J_if_neN (tgt := 88) dX7_savingOf_81 (by decide) (by omega) (fun c81 => ?_) (fun c81 => ?_) | refine J_if_ne (tgt := 88) dX7_savingOf_81 (by decide) (fun c81 => ?_) (fun c81 => ?_)
    · refine J_iload_3 dX7_savingOf_88 ?_
      exact J_iret dX7_savingOf_89 rfl (⟨by first | rw [if_pos c81] | rw [if_neg (Nat.ne_of_gt c81)], p, ho⟩)
    · refine J_iload_2 dX7_savingOf_84 ?_
      refine J_goto (tgt := 89) dX7_savingOf_85 (by decide) ?_
      exact J_iret dX7_savingOf_89 rfl (⟨by first | rw [if_pos c81] | rw [if_neg (Nat.ne_of_gt c81)], p, ho⟩)
  | succ k ih =>
    intro e h1 m V s o5 o6 l5 he p q hs hf ho
    obtain ⟨h0, ⟨fm, hfm, hm0⟩, -⟩ := id p
    have h8 := p.2.2.2.2.2.2.2.2.2.2.2.2.2.1 1 (by decide)
    have hd : dok D := p.2.2.2.2.2.2.2.2
    have hlt := fr_pl_le hd (w := e) (l := 1) (by decide)
    rw [svk] at hf
    cases s with
    | none =>
      refine J_iload_4 dX7_savingOf_7 ?_
      refine J_aload_0 dX7_savingOf_9 ?_
      refine J_get dX7_savingOf_10 fl_X7_7 h0 rfl ?_
      refine J_iconst (v := nI 1) dX7_savingOf_13 (by decide) ?_
      refine J_iald dX7_savingOf_14 hfm rfl (by omega) (by omega) ?_
      refine J_topi (b := nI (dn D 1)) (hm0 1 (by decide)) ?_
      refine J_icmp_geN (tgt := 80) dX7_savingOf_15 (by decide) (by omega) (by omega) (fun c => absurd c (by omega)) (fun _ => ?_)
      refine J_aload_0 dX7_savingOf_18 ?_
      refine J_iconst (v := nI 1) dX7_savingOf_19 (by decide) ?_
      refine J_iload_4 dX7_savingOf_20 ?_
      refine J_cV2 dX7_savingOf_22 jmX7_pullsOf mv_X7_169 h0 rfl (Nat.le_of_ble_eq_true rfl) (by decide) (m_pullsOf p q (l := 1) (by decide) (wNe (by omega))) (fun r h' q => ?_)
      obtain ⟨rfl, p2, ⟨m', V', Q2, ql, -⟩, o2⟩ := q
      refine J_aload_0 dX7_savingOf_25 ?_
      refine J_iconst (v := nI 1) dX7_savingOf_26 (by decide) ?_
      refine J_cV1i dX7_savingOf_27 jmX7_framesNow mv_X7_184 p2.1 rfl (Nat.le_of_ble_eq_true rfl) (by decide) (m_framesNow p2 Q2 (l := 1) (by decide) ql) ?_
      refine J_istore_5 dX7_savingOf_30 (Nat.le_of_ble_eq_true rfl) rfl ?_
      refine J_iload_2 dX7_savingOf_32 ?_
      refine J_iconst (v := -1) dX7_savingOf_33 (by decide) ?_
      refine J_icmp_eq (tgt := 43) dX7_savingOf_34 (by decide) (fun _ => ?_) (fun c => absurd (rfl : svA none = -1) c)
      refine J_iconst (v := nI 1) dX7_savingOf_43 (by decide) ?_
      refine J_goto (tgt := 48) dX7_savingOf_44 (by decide) ?_
      refine J_istore_6 dX7_savingOf_48 (Nat.le_of_ble_eq_true rfl) rfl ?_
      refine J_iload_6 dX7_savingOf_50 ?_
      refine J_if_eq (tgt := 60) dX7_savingOf_52 (by decide) (fun c => absurd c (by decide)) (fun _ => ?_)
      refine J_iload_4 dX7_savingOf_55 ?_
      refine J_goto (tgt := 61) dX7_savingOf_57 (by decide) ?_
      refine J_istore_2 dX7_savingOf_61 (Nat.le_of_ble_eq_true rfl) rfl ?_
      refine J_iload_6 dX7_savingOf_62 ?_
      refine J_if_eq (tgt := 72) dX7_savingOf_64 (by decide) (fun c => absurd c (by decide)) (fun _ => ?_)
      refine J_iload_5 dX7_savingOf_67 ?_
      refine J_goto (tgt := 73) dX7_savingOf_69 (by decide) ?_
      refine J_istore_3 dX7_savingOf_73 (Nat.le_of_ble_eq_true rfl) rfl ?_
      first | refine J_inc_4 dX7_savingOf_74 (Nat.le_of_ble_eq_true rfl) rfl ?_ | refine J_iinc_4 dX7_savingOf_74 rfl (Nat.le_of_ble_eq_true rfl) rfl ?_
      refine J_goto (tgt := 7) dX7_savingOf_77 (by decide) ?_
      exact ih (e + 1) _ m' V' (some (e, _)) _ _ rfl (by omega) p2 Q2 (fun q hq => by cases hq; exact ⟨by omega, hlt⟩) hf (ho.tr o2)
    | some q0 =>
      obtain ⟨b, f⟩ := q0
      obtain ⟨hb8, hf23⟩ := hs (b, f) rfl
      dsimp only at hb8 hf23
      by_cases hq : frk (plG D 1 e) 0 (plN D 1 e) < f
      · rw [show svs D e (some (b, f)) = some (e, frk (plG D 1 e) 0 (plN D 1 e)) from if_pos hq] at hf
        refine J_iload_4 dX7_savingOf_7 ?_
        refine J_aload_0 dX7_savingOf_9 ?_
        refine J_get dX7_savingOf_10 fl_X7_7 h0 rfl ?_
        refine J_iconst (v := nI 1) dX7_savingOf_13 (by decide) ?_
        refine J_iald dX7_savingOf_14 hfm rfl (by omega) (by omega) ?_
        refine J_topi (b := nI (dn D 1)) (hm0 1 (by decide)) ?_
        refine J_icmp_geN (tgt := 80) dX7_savingOf_15 (by decide) (by omega) (by omega) (fun c => absurd c (by omega)) (fun _ => ?_)
        refine J_aload_0 dX7_savingOf_18 ?_
        refine J_iconst (v := nI 1) dX7_savingOf_19 (by decide) ?_
        refine J_iload_4 dX7_savingOf_20 ?_
        refine J_cV2 dX7_savingOf_22 jmX7_pullsOf mv_X7_169 h0 rfl (Nat.le_of_ble_eq_true rfl) (by decide) (m_pullsOf p q (l := 1) (by decide) (wNe (by omega))) (fun r h' q => ?_)
        obtain ⟨rfl, p2, ⟨m', V', Q2, ql, -⟩, o2⟩ := q
        refine J_aload_0 dX7_savingOf_25 ?_
        refine J_iconst (v := nI 1) dX7_savingOf_26 (by decide) ?_
        refine J_cV1i dX7_savingOf_27 jmX7_framesNow mv_X7_184 p2.1 rfl (Nat.le_of_ble_eq_true rfl) (by decide) (m_framesNow p2 Q2 (l := 1) (by decide) ql) ?_
        refine J_istore_5 dX7_savingOf_30 (Nat.le_of_ble_eq_true rfl) rfl ?_
        refine J_iload_2 dX7_savingOf_32 ?_
        refine J_iconst (v := -1) dX7_savingOf_33 (by decide) ?_
        refine J_icmp_eq (tgt := 43) dX7_savingOf_34 (by decide) (fun c => absurd c (oN_ne (n := b) (by omega))) (fun _ => ?_)
        refine J_iload_5 dX7_savingOf_37 ?_
        refine J_iload_3 dX7_savingOf_39 ?_
        refine J_icmp_geN (b := f) (tgt := 47) dX7_savingOf_40 (by decide) (by omega) (by omega) (fun c => absurd c (by omega)) (fun _ => ?_)
        refine J_iconst (v := nI 1) dX7_savingOf_43 (by decide) ?_
        refine J_goto (tgt := 48) dX7_savingOf_44 (by decide) ?_
        refine J_istore_6 dX7_savingOf_48 (Nat.le_of_ble_eq_true rfl) rfl ?_
        refine J_iload_6 dX7_savingOf_50 ?_
        refine J_if_eq (tgt := 60) dX7_savingOf_52 (by decide) (fun c => absurd c (by decide)) (fun _ => ?_)
        refine J_iload_4 dX7_savingOf_55 ?_
        refine J_goto (tgt := 61) dX7_savingOf_57 (by decide) ?_
        refine J_istore_2 dX7_savingOf_61 (Nat.le_of_ble_eq_true rfl) rfl ?_
        refine J_iload_6 dX7_savingOf_62 ?_
        refine J_if_eq (tgt := 72) dX7_savingOf_64 (by decide) (fun c => absurd c (by decide)) (fun _ => ?_)
        refine J_iload_5 dX7_savingOf_67 ?_
        refine J_goto (tgt := 73) dX7_savingOf_69 (by decide) ?_
        refine J_istore_3 dX7_savingOf_73 (Nat.le_of_ble_eq_true rfl) rfl ?_
        first | refine J_inc_4 dX7_savingOf_74 (Nat.le_of_ble_eq_true rfl) rfl ?_ | refine J_iinc_4 dX7_savingOf_74 rfl (Nat.le_of_ble_eq_true rfl) rfl ?_
        refine J_goto (tgt := 7) dX7_savingOf_77 (by decide) ?_
        exact ih (e + 1) _ m' V' (some (e, _)) _ _ rfl (by omega) p2 Q2 (fun q hq => by cases hq; exact ⟨by omega, hlt⟩) hf (ho.tr o2)
      · rw [show svs D e (some (b, f)) = some (b, f) from if_neg hq] at hf
        refine J_iload_4 dX7_savingOf_7 ?_
        refine J_aload_0 dX7_savingOf_9 ?_
        refine J_get dX7_savingOf_10 fl_X7_7 h0 rfl ?_
        refine J_iconst (v := nI 1) dX7_savingOf_13 (by decide) ?_
        refine J_iald dX7_savingOf_14 hfm rfl (by omega) (by omega) ?_
        refine J_topi (b := nI (dn D 1)) (hm0 1 (by decide)) ?_
        refine J_icmp_geN (tgt := 80) dX7_savingOf_15 (by decide) (by omega) (by omega) (fun c => absurd c (by omega)) (fun _ => ?_)
        refine J_aload_0 dX7_savingOf_18 ?_
        refine J_iconst (v := nI 1) dX7_savingOf_19 (by decide) ?_
        refine J_iload_4 dX7_savingOf_20 ?_
        refine J_cV2 dX7_savingOf_22 jmX7_pullsOf mv_X7_169 h0 rfl (Nat.le_of_ble_eq_true rfl) (by decide) (m_pullsOf p q (l := 1) (by decide) (wNe (by omega))) (fun r h' q => ?_)
        obtain ⟨rfl, p2, ⟨m', V', Q2, ql, -⟩, o2⟩ := q
        refine J_aload_0 dX7_savingOf_25 ?_
        refine J_iconst (v := nI 1) dX7_savingOf_26 (by decide) ?_
        refine J_cV1i dX7_savingOf_27 jmX7_framesNow mv_X7_184 p2.1 rfl (Nat.le_of_ble_eq_true rfl) (by decide) (m_framesNow p2 Q2 (l := 1) (by decide) ql) ?_
        refine J_istore_5 dX7_savingOf_30 (Nat.le_of_ble_eq_true rfl) rfl ?_
        refine J_iload_2 dX7_savingOf_32 ?_
        refine J_iconst (v := -1) dX7_savingOf_33 (by decide) ?_
        refine J_icmp_eq (tgt := 43) dX7_savingOf_34 (by decide) (fun c => absurd c (oN_ne (n := b) (by omega))) (fun _ => ?_)
        refine J_iload_5 dX7_savingOf_37 ?_
        refine J_iload_3 dX7_savingOf_39 ?_
        refine J_icmp_geN (b := f) (tgt := 47) dX7_savingOf_40 (by decide) (by omega) (by omega) (fun _ => ?_) (fun c => absurd c (by omega))
        refine J_iconst (v := nI 0) dX7_savingOf_47 (by decide) ?_
        refine J_istore_6 dX7_savingOf_48 (Nat.le_of_ble_eq_true rfl) rfl ?_
        refine J_iload_6 dX7_savingOf_50 ?_
        refine J_if_eq (tgt := 60) dX7_savingOf_52 (by decide) (fun _ => ?_) (fun c => absurd (by rfl) c)
        refine J_iload_2 dX7_savingOf_60 ?_
        refine J_istore_2 dX7_savingOf_61 (Nat.le_of_ble_eq_true rfl) rfl ?_
        refine J_iload_6 dX7_savingOf_62 ?_
        refine J_if_eq (tgt := 72) dX7_savingOf_64 (by decide) (fun _ => ?_) (fun c => absurd (by rfl) c)
        refine J_iload_3 dX7_savingOf_72 ?_
        refine J_istore_3 dX7_savingOf_73 (Nat.le_of_ble_eq_true rfl) rfl ?_
        first | refine J_inc_4 dX7_savingOf_74 (Nat.le_of_ble_eq_true rfl) rfl ?_ | refine J_iinc_4 dX7_savingOf_74 rfl (Nat.le_of_ble_eq_true rfl) rfl ?_
        refine J_goto (tgt := 7) dX7_savingOf_77 (by decide) ?_
        exact ih (e + 1) _ m' V' (some (b, f)) _ _ rfl (by omega) p2 Q2 (fun q hq => by cases hq; exact ⟨hb8, hf23⟩) hf (ho.tr o2)
theorem m_savingOf (p : mdAt h D tb F) (q : mps h m V) {w : Nat} (hw : w < 2) : Ct X mX7_savingOf 3 [.ref 51, .int (nI w)] h (fun r h' => r = some (.int (sSav D w)) ∧ mdAt h' D tb F ∧ offB h h' 60 65) := by
  have e := l_msav (X := X) (h := h) hw (dn D 1) 0 h m V none none none rfl (by omega) p q (fun q hq => by cases hq) rfl offB.rf
  refine Ct_of jmX7_savingOf [some (.ref 51), some (.int (nI w)), none, none, none, none, none] (Nat.le_of_ble_eq_true rfl) rfl ?_
  show J X RX7 cX7_savingOf 7 _ (some .int) _ 0 _ _ _
  refine J_iconst (v := -1) dX7_savingOf_0 (by decide) ?_
  refine J_istore_2 dX7_savingOf_1 (Nat.le_of_ble_eq_true rfl) rfl ?_
  refine J_iconst (v := -1) dX7_savingOf_2 (by decide) ?_
  refine J_istore_3 dX7_savingOf_3 (Nat.le_of_ble_eq_true rfl) rfl ?_
  refine J_iconst (v := nI 0) dX7_savingOf_4 (by decide) ?_
  refine J_istore_4 dX7_savingOf_5 (Nat.le_of_ble_eq_true rfl) rfl ?_
  exact e
theorem m_sav_bad {w : Int32} (hb : ¬ (0 ≤ w ∧ w < nI 2)) : CtI X mX7_saving 4 [.ref 51, .int w] h (-2) := by
  refine Ct_of jmX7_saving [some (.ref 51), some (.int w)] (Nat.le_of_ble_eq_true rfl) rfl ?_
  show J X RX7 cX7_saving 2 _ (some .int) _ 0 _ _ _
  refine J_iload_1 dX7_saving_0 ?_
  refine J_iconst (v := nI 0) dX7_saving_1 (by decide) ?_
  refine J_iconst (v := nI 1) dX7_saving_2 (by decide) ?_
  refine J_cS3i dX7_saving_3 jmX7_in ms_X7_69 (Nat.le_of_ble_eq_true rfl) (by decide) (m_inB (n := 1) (by decide) hb) ?_
  refine J_if_eq (tgt := 17) dX7_saving_6 (by decide) (fun _ => ?_) (fun c => absurd (by decide) c)
  refine J_bipush (v := -2) dX7_saving_17 (by decide) ?_
  exact J_iret dX7_saving_19 rfl (⟨rfl, rfl⟩)
theorem m_sav_ok (p : mdAt h D tb F) {w : Nat} (hw : w < 2) : Ct X mX7_saving 4 [.ref 51, .int (nI w)] h (fun r h' => r = some (.int (sSav D w)) ∧ moAt h' D ∧ offB h h' 51 71) := by
  have h0 := p.1
  obtain ⟨m, V, q⟩ := mps_of p
  refine Ct_of jmX7_saving [some (.ref 51), some (.int (nI w))] (Nat.le_of_ble_eq_true rfl) rfl ?_
  show J X RX7 cX7_saving 2 _ (some .int) _ 0 _ _ _
  refine J_iload_1 dX7_saving_0 ?_
  refine J_iconst (v := nI 0) dX7_saving_1 (by decide) ?_
  refine J_iconst (v := nI 1) dX7_saving_2 (by decide) ?_
  refine J_cS3i dX7_saving_3 jmX7_in ms_X7_69 (Nat.le_of_ble_eq_true rfl) (by decide) (m_inT (by omega) (by omega) (by decide)) ?_
  refine J_if_eq (tgt := 17) dX7_saving_6 (by decide) (fun c => absurd c (by decide)) (fun _ => ?_)
  refine J_aload_0 dX7_saving_9 ?_
  refine J_iload_1 dX7_saving_10 ?_
  refine J_cV1 dX7_saving_11 jmX7_savingOf mv_X7_225 h0 rfl (Nat.le_of_ble_eq_true rfl) (by decide) (m_savingOf p q hw) (fun r h' q => ?_)
  obtain ⟨rfl, p2, o2⟩ := q
  refine J_goto (tgt := 19) dX7_saving_14 (by decide) ?_
  exact J_iret dX7_saving_19 rfl (⟨rfl, ⟨_, _, p2⟩, o2.wide (by omega) (by omega)⟩)
theorem m_write_bad {l s : Int32} (hb : ¬ ((∃ j, j < 2 ∧ l = nI j) ∧ ∃ k, k < 4 ∧ s = nI k)) : CtI X mX7_write 4 [.ref 51, .int l, .int s] h (-2) := by
  refine Ct_of jmX7_write [some (.ref 51), some (.int l), some (.int s), none, none] (Nat.le_of_ble_eq_true rfl) rfl ?_
  show J X RX7 cX7_write 5 _ (some .int) _ 0 _ _ _
  rcases ix_cases l 2 (by decide) with ⟨k, hk, rfl⟩ | hs
  · rcases ix_cases s 4 (by decide) with ⟨u, hu, rfl⟩ | hf
    · exact absurd ⟨⟨k, hk, rfl⟩, u, hu, rfl⟩ hb
    · refine J_iload_1 dX7_write_0 ?_
      refine J_cS1i dX7_write_1 jmX7_isList ms_X7_82 (Nat.le_of_ble_eq_true rfl) (by decide) (m_listT hk) ?_
      refine J_if_eq (tgt := 14) dX7_write_4 (by decide) (fun c => absurd c (by decide)) (fun _ => ?_)
      refine J_iload_2 dX7_write_7 ?_
      refine J_cS1i dX7_write_8 jmX7_isSheet ms_X7_100 (Nat.le_of_ble_eq_true rfl) (by decide) (m_sheetF hf) ?_
      refine J_if_ne (tgt := 17) dX7_write_11 (by decide) (fun c => absurd c (by decide)) (fun _ => ?_)
      refine J_bipush (v := -2) dX7_write_14 (by decide) ?_
      exact J_iret dX7_write_16 rfl (⟨rfl, rfl⟩)
  · refine J_iload_1 dX7_write_0 ?_
    refine J_cS1i dX7_write_1 jmX7_isList ms_X7_82 (Nat.le_of_ble_eq_true rfl) (by decide) (m_listF hs) ?_
    refine J_if_eq (tgt := 14) dX7_write_4 (by decide) (fun _ => ?_) (fun c => absurd (by decide) c)
    refine J_bipush (v := -2) dX7_write_14 (by decide) ?_
    exact J_iret dX7_write_16 rfl (⟨rfl, rfl⟩)
theorem m_write_null (p : mdAt h D tb F) {l s : Nat} (hl : l < 2) (hs : s < 4) (hq : (dsh D s).1 = true) : Ct X mX7_write 4 [.ref 51, .int (nI l), .int (nI s)] h (fun r h' => r = some (.int (fnd 1)) ∧ moAt h' (dSF D 1) ∧ offB h h' 51 71) := by
  obtain ⟨h0, -, -, -, -, -, ⟨⟨f1, a1, b1⟩, -⟩, -⟩ := id p
  refine Ct_of jmX7_write [some (.ref 51), some (.int (nI l)), some (.int (nI s)), none, none] (Nat.le_of_ble_eq_true rfl) rfl ?_
  show J X RX7 cX7_write 5 _ (some .int) _ 0 _ _ _
  refine J_iload_1 dX7_write_0 ?_
  refine J_cS1i dX7_write_1 jmX7_isList ms_X7_82 (Nat.le_of_ble_eq_true rfl) (by decide) (m_listT hl) ?_
  refine J_if_eq (tgt := 14) dX7_write_4 (by decide) (fun c => absurd c (by decide)) (fun _ => ?_)
  refine J_iload_2 dX7_write_7 ?_
  refine J_cS1i dX7_write_8 jmX7_isSheet ms_X7_100 (Nat.le_of_ble_eq_true rfl) (by decide) (m_sheetT hs) ?_
  refine J_if_ne (tgt := 17) dX7_write_11 (by decide) (fun _ => ?_) (fun c => absurd c (by decide))
  refine J_aload_0 dX7_write_17 ?_
  refine J_get dX7_write_18 fl_X7_52 h0 rfl ?_
  refine J_iload_2 dX7_write_21 ?_
  refine J_zald dX7_write_22 a1 rfl (by omega) (by omega) ?_
  refine J_topi (b := 0) ((b1 s hs).trans (if_pos hq)) ?_
  refine J_if_ne (tgt := 32) dX7_write_23 (by decide) (fun c => absurd c (by decide)) (fun _ => ?_)
  refine J_aload_0 dX7_write_26 ?_
  refine J_iconst (v := nI 1) dX7_write_27 (by decide) ?_
  refine J_cV1 dX7_write_28 jmX7_meets mv_X7_103 h0 rfl (Nat.le_of_ble_eq_true rfl) (by decide) (m_meets p) (fun r h' q => ?_)
  obtain ⟨rfl, rfl⟩ := q
  exact J_iret dX7_write_31 rfl (⟨rfl, ⟨_, _, md_find p (by decide)⟩, offB.rf.hu (by omega) (by omega)⟩)
theorem l_mwrite {h : HF} {l s form sz : Nat} (hl : l < 2) (hs : s < 4) (hd : dok D) {m : Nat → Nat} {V : Nat → Nat → Nat} (ql : mpl D l 8 m V) {itf : Nat → Int32} {mm : Nat} (hmm : mm = min (2 * plN D l 8) sz) : ∀ (k i : Nat) (h1 : HF) (it : Nat → Int32), i + k = mm → mdAt h1 (dSH D s (false, form, sz, it)) tb F → mps h1 m V → wrI (plG D l 8) form i k it = itf → offB h h1 51 71 →
    J X RX7 cX7_write 5 4 (some .int) (fun r h' => r = some (.int (nI mm)) ∧ moAt h' (dSH D s (false, form, sz, itf)) ∧ offB h h' 51 71) 43 [some (.ref 51), some (.int (nI l)), some (.int (nI s)), some (.int (nI (2 * plN D l 8))), some (.int (nI i))] [] h1 := by
  have h8 := (pl_P hd (w := 8) hl).1
  intro k
  induction k with
  | zero =>
    intro i h1 it hi p q hw ho
    obtain ⟨h0, -, -, -, -, -, ⟨-, -, ⟨f3, a3, b3⟩, -⟩, -⟩ := id p
    have hz := (m_shk p hs).2
    have b := b3 s hs
    rw [dsh_dSH] at hz b
    dsimp only at hz b
    have hw : it = itf := hw
    subst hw
    obtain rfl : i = mm := by omega
    by_cases c : sz ≤ i
    · refine J_iload_4 dX7_write_43 ?_
      refine J_aload_0 dX7_write_45 ?_
      refine J_get dX7_write_46 fl_X7_59 h0 rfl ?_
      refine J_iload_2 dX7_write_49 ?_
      refine J_iald dX7_write_50 a3 rfl (by omega) (by omega) ?_
      refine J_topi (b := nI sz) (b) ?_
      refine J_icmp_geN (tgt := 111) dX7_write_51 (by decide) (by omega) (by omega) (fun _ => ?_) (fun c => absurd c (by omega))
      refine J_iload_4 dX7_write_111 ?_
      exact J_iret dX7_write_113 rfl (⟨rfl, ⟨_, _, p⟩, ho⟩)
    · refine J_iload_4 dX7_write_43 ?_
      refine J_aload_0 dX7_write_45 ?_
      refine J_get dX7_write_46 fl_X7_59 h0 rfl ?_
      refine J_iload_2 dX7_write_49 ?_
      refine J_iald dX7_write_50 a3 rfl (by omega) (by omega) ?_
      refine J_topi (b := nI sz) (b) ?_
      refine J_icmp_geN (tgt := 111) dX7_write_51 (by decide) (by omega) (by omega) (fun c => absurd c (by omega)) (fun _ => ?_)
      refine J_iload_4 dX7_write_54 ?_
      refine J_iload_3 dX7_write_56 ?_
      refine J_icmp_geN (tgt := 111) dX7_write_57 (by decide) (by omega) (by omega) (fun _ => ?_) (fun c => absurd c (by omega))
      refine J_iload_4 dX7_write_111 ?_
      exact J_iret dX7_write_113 rfl (⟨rfl, ⟨_, _, p⟩, ho⟩)
  | succ k ih =>
    intro i h1 it hi p q hw ho
    obtain ⟨h0, -, -, -, -, -, ⟨-, -, ⟨f3, a3, b3⟩, -⟩, -⟩ := id p
    obtain ⟨q0, q1, q2, q3, q4⟩ := id q
    have hz := (m_shk p hs).2
    have b := b3 s hs
    rw [dsh_dSH] at hz b
    dsimp only at hz b
    rw [wrI] at hw
    obtain ⟨e0, e1, e2, e3⟩ := ql.2 (i / 2) (by omega)
    have key : ∀ v : Int32, v = nI (plG D l 8 (i / 2) (1 + i % 2)) → J X RX7 cX7_write 5 4 (some .int) (fun r h' => r = some (.int (nI mm)) ∧ moAt h' (dSH D s (false, form, sz, itf)) ∧ offB h h' 51 71) 102 [some (.ref 51), some (.int (nI l)), some (.int (nI s)), some (.int (nI (2 * plN D l 8))), some (.int (nI i))] [.int v, .int (nI i), .int (nI s), .ref 51] h1 := by
      rintro v rfl
      refine J_cV3 dX7_write_102 jmX7_keep mv_X7_234 h0 rfl (Nat.le_of_ble_eq_true rfl) (by decide) (m_keep p hs (i := i) (by omega)) (fun r h' q => ?_)
      obtain ⟨rfl, p2, o2⟩ := q
      rw [dSH_dSH, dsh_dSH] at p2
      first | refine J_inc_4 dX7_write_105 (Nat.le_of_ble_eq_true rfl) rfl ?_ | refine J_iinc_4 dX7_write_105 rfl (Nat.le_of_ble_eq_true rfl) rfl ?_
      refine J_goto (tgt := 43) dX7_write_108 (by decide) ?_
      exact ih (i + 1) _ _ (by omega) p2 ⟨hAt_off q0 o2 (by omega), hAt_off q1 o2 (by omega), hAt_off q2 o2 (by omega), hAt_off q3 o2 (by omega), hAt_off q4 o2 (by omega)⟩ hw (ho.tr (o2.wide (by omega) (by omega)))
    refine J_iload_4 dX7_write_43 ?_
    refine J_aload_0 dX7_write_45 ?_
    refine J_get dX7_write_46 fl_X7_59 h0 rfl ?_
    refine J_iload_2 dX7_write_49 ?_
    refine J_iald dX7_write_50 a3 rfl (by omega) (by omega) ?_
    refine J_topi (b := nI sz) (b) ?_
    refine J_icmp_geN (tgt := 111) dX7_write_51 (by decide) (by omega) (by omega) (fun c => absurd c (by omega)) (fun _ => ?_)
    refine J_iload_4 dX7_write_54 ?_
    refine J_iload_3 dX7_write_56 ?_
    refine J_icmp_geN (tgt := 111) dX7_write_57 (by decide) (by omega) (by omega) (fun c => absurd c (by omega)) (fun _ => ?_)
    refine J_aload_0 dX7_write_60 ?_
    refine J_iload_2 dX7_write_61 ?_
    refine J_iload_4 dX7_write_62 ?_
    refine J_iload_4 dX7_write_64 ?_
    refine J_iconst (v := nI 2) dX7_write_66 (by decide) ?_
    refine J_iremN dX7_write_67 (by omega) (by omega) (by omega) ?_
    first | refine J_if_neB (tgt := 88) dX7_write_68 (by decide) (fun c68 => ?_) (fun c68 => ?_) | refine J_if_neN (tgt := 88) dX7_write_68 (by decide) (by omega) (fun c68 => ?_) (fun c68 => ?_) | refine J_if_ne (tgt := 88) dX7_write_68 (by decide) (fun c68 => ?_) (fun c68 => ?_)
    · refine J_aload_0 dX7_write_88 ?_
      refine J_get dX7_write_89 fl_X7_43 h0 rfl ?_
      refine J_bipush (v := nI 8) dX7_write_92 (by decide) ?_
      refine J_iload_1 dX7_write_94 ?_
      first | refine J_imulN dX7_write_95 ?_ | refine J_imul dX7_write_95 ?_
      refine J_iload_4 dX7_write_96 ?_
      refine J_iconst (v := nI 2) dX7_write_98 (by decide) ?_
      refine J_idivN dX7_write_99 (by omega) (by omega) (by omega) ?_
      first | refine J_iaddN dX7_write_100 ?_ | refine J_iadd dX7_write_100 ?_
      refine J_iald dX7_write_101 q3 rfl (by omega) (by omega) ?_
      refine J_topi (b := nI (plG D l 8 (i / 2) 2)) (congrArg nI e2) ?_
      exact key _ (by first | rw [c68] | rw [show i % 2 = 1 by omega])
    · refine J_aload_0 dX7_write_71 ?_
      refine J_get dX7_write_72 fl_X7_40 h0 rfl ?_
      refine J_bipush (v := nI 8) dX7_write_75 (by decide) ?_
      refine J_iload_1 dX7_write_77 ?_
      first | refine J_imulN dX7_write_78 ?_ | refine J_imul dX7_write_78 ?_
      refine J_iload_4 dX7_write_79 ?_
      refine J_iconst (v := nI 2) dX7_write_81 (by decide) ?_
      refine J_idivN dX7_write_82 (by omega) (by omega) (by omega) ?_
      first | refine J_iaddN dX7_write_83 ?_ | refine J_iadd dX7_write_83 ?_
      refine J_iald dX7_write_84 q2 rfl (by omega) (by omega) ?_
      refine J_topi (b := nI (plG D l 8 (i / 2) 1)) (congrArg nI e1) ?_
      refine J_goto (tgt := 102) dX7_write_85 (by decide) ?_
      exact key _ (by first | rw [c68] | rw [show i % 2 = 1 by omega])
theorem m_write_ok (p : mdAt h D tb F) {l s : Nat} (hl : l < 2) (hs : s < 4) (hq : (dsh D s).1 = false) : Ct X mX7_write 4 [.ref 51, .int (nI l), .int (nI s)] h (fun r h' => r = some (.int (nI (sWrN D l s))) ∧ moAt h' (dSH D s (false, (dsh D s).2.1, (dsh D s).2.2.1, wrI (plG D l 8) (dsh D s).2.1 0 (sWrN D l s) (dsh D s).2.2.2)) ∧ offB h h' 51 71) := by
  obtain ⟨h0, -, -, -, -, -, ⟨⟨f1, a1, b1⟩, -⟩, -⟩ := id p
  obtain ⟨m, V, q⟩ := mps_of p
  have hd : dok D := p.2.2.2.2.2.2.2.2
  have eD : D = dSH D s (false, (dsh D s).2.1, (dsh D s).2.2.1, (dsh D s).2.2.2) := by
    have e : (false, (dsh D s).2.1, (dsh D s).2.2.1, (dsh D s).2.2.2) = dsh D s := by rw [← hq]
    rw [e, dSH_self]
  refine Ct_of jmX7_write [some (.ref 51), some (.int (nI l)), some (.int (nI s)), none, none] (Nat.le_of_ble_eq_true rfl) rfl ?_
  show J X RX7 cX7_write 5 _ (some .int) _ 0 _ _ _
  refine J_iload_1 dX7_write_0 ?_
  refine J_cS1i dX7_write_1 jmX7_isList ms_X7_82 (Nat.le_of_ble_eq_true rfl) (by decide) (m_listT hl) ?_
  refine J_if_eq (tgt := 14) dX7_write_4 (by decide) (fun c => absurd c (by decide)) (fun _ => ?_)
  refine J_iload_2 dX7_write_7 ?_
  refine J_cS1i dX7_write_8 jmX7_isSheet ms_X7_100 (Nat.le_of_ble_eq_true rfl) (by decide) (m_sheetT hs) ?_
  refine J_if_ne (tgt := 17) dX7_write_11 (by decide) (fun _ => ?_) (fun c => absurd c (by decide))
  refine J_aload_0 dX7_write_17 ?_
  refine J_get dX7_write_18 fl_X7_52 h0 rfl ?_
  refine J_iload_2 dX7_write_21 ?_
  refine J_zald dX7_write_22 a1 rfl (by omega) (by omega) ?_
  refine J_topi (b := 1) ((b1 s hs).trans (if_neg (by rw [hq]; decide))) ?_
  refine J_if_ne (tgt := 32) dX7_write_23 (by decide) (fun _ => ?_) (fun c => absurd c (by decide))
  refine J_iconst (v := nI 2) dX7_write_32 (by decide) ?_
  refine J_aload_0 dX7_write_33 ?_
  refine J_iload_1 dX7_write_34 ?_
  refine J_cV1 dX7_write_35 jmX7_manyPulls mv_X7_172 h0 rfl (Nat.le_of_ble_eq_true rfl) (by decide) (m_many p q hl) (fun r h' q => ?_)
  obtain ⟨rfl, p2, ⟨m', V', Q2, ql, -⟩, o2⟩ := q
  first | refine J_imulN dX7_write_38 ?_ | refine J_imul dX7_write_38 ?_
  refine J_istore_3 dX7_write_39 (Nat.le_of_ble_eq_true rfl) rfl ?_
  refine J_iconst (v := nI 0) dX7_write_40 (by decide) ?_
  refine J_istore_4 dX7_write_41 (Nat.le_of_ble_eq_true rfl) rfl ?_
  exact l_mwrite (mm := sWrN D l s) hl hs hd ql rfl (sWrN D l s) 0 h' (dsh D s).2.2.2 (by omega) (eD ▸ p2) Q2 rfl (o2.wide (by omega) (by omega))
end
