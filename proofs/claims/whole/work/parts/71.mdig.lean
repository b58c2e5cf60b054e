section
variable {X : Cx} {h : HF} {D : DS} {tb : Int32} {F : Nat → Nat → Int32}
theorem m_anewN (p : moAt h D) : Ct X mX7_anewOf 3 [.ref 51, .int (-1)] h (fun r h' => r = some (.int (nI (sAnewN D))) ∧ moAt h' D ∧ offB h h' 51 71) := by
  obtain ⟨tb, F, p⟩ := p
  obtain ⟨m, V, q⟩ := mps_of p
  refine Ct.mono (m_anewOf (X := X) p q (v := none) (fun i z => by cases z)) ?_
  rintro r h' ⟨e1, p2, -, o2⟩
  exact ⟨e1, ⟨_, _, p2⟩, o2.wide (by omega) (by omega)⟩
theorem m_anewI (p : moAt h D) {i : Nat} (hi : i < 10000) : Ct X mX7_anewOf 3 [.ref 51, .int (nI i)] h (fun r h' => r = some (.int (sAnewI D i)) ∧ moAt h' D ∧ offB h h' 51 71) := by
  obtain ⟨tb, F, p⟩ := p
  obtain ⟨m, V, q⟩ := mps_of p
  have hd : dok D := p.2.2.2.2.2.2.2.2
  refine Ct.mono (m_anewOf (X := X) p q (v := some i) (fun j z => by cases z; omega)) ?_
  rintro r h' ⟨e1, p2, -, o2⟩
  refine ⟨?_, ⟨_, _, p2⟩, o2.wide (by omega) (by omega)⟩
  rw [e1, anI hd i]
  rfl
theorem m_anew_bad {i : Int32} (hb : ¬ i = -1) (hb2 : ¬ (0 ≤ i ∧ i < nI 10000)) : CtI X mX7_anew 4 [.ref 51, .int i] h (-2) := by
  have hv : ¬ ((-1 : Int32) ≤ i ∧ i ≤ nI 9999) := fun z => by
    have z1 := Int32.le_iff_toInt_le.mp z.1
    have z2 := Int32.le_iff_toInt_le.mp z.2
    rw [show (-1 : Int32).toInt = -1 from by decide] at z1
    rw [show (nI 9999).toInt = 9999 from by decide] at z2
    have n1 : i.toInt ≠ -1 := fun y => hb (Int32.toInt_inj.mp (y.trans (by decide)))
    refine hb2 ⟨Int32.le_iff_toInt_le.mpr (by rw [Int32.toInt_zero]; omega), Int32.lt_iff_toInt_lt.mpr (by rw [show (nI 10000).toInt = 10000 from by decide]; omega)⟩
  refine Ct_of jmX7_anew [some (.ref 51), some (.int i)] (Nat.le_of_ble_eq_true rfl) rfl ?_
  show J X RX7 cX7_anew 2 _ (some .int) _ 0 _ _ _
  refine J_iload_1 dX7_anew_0 ?_
  refine J_iconst (v := -1) dX7_anew_1 (by decide) ?_
  refine J_sipush (v := nI 9999) dX7_anew_2 (by decide) ?_
  refine J_cS3i dX7_anew_5 jmX7_in ms_X7_69 (Nat.le_of_ble_eq_true rfl) (by decide) (m_inF hv) ?_
  refine J_if_eq (tgt := 19) dX7_anew_8 (by decide) (fun _ => ?_) (fun c => absurd (by decide) c)
  refine J_bipush (v := -2) dX7_anew_19 (by decide) ?_
  exact J_iret dX7_anew_21 rfl (⟨rfl, rfl⟩)
theorem m_anew_n (p : mdAt h D tb F) : Ct X mX7_anew 4 [.ref 51, .int (-1)] h (fun r h' => r = some (.int (nI (sAnewN D))) ∧ moAt h' D ∧ offB h h' 51 71) := by
  have h0 := p.1
  have hi := m_in (X := X) (h := h) (v := -1) (a := -1) (b := nI 9999)
  rw [if_pos (by decide)] at hi
  refine Ct_of jmX7_anew [some (.ref 51), some (.int (-1))] (Nat.le_of_ble_eq_true rfl) rfl ?_
  show J X RX7 cX7_anew 2 _ (some .int) _ 0 _ _ _
  refine J_iload_1 dX7_anew_0 ?_
  refine J_iconst (v := -1) dX7_anew_1 (by decide) ?_
  refine J_sipush (v := nI 9999) dX7_anew_2 (by decide) ?_
  refine J_cS3i dX7_anew_5 jmX7_in ms_X7_69 (Nat.le_of_ble_eq_true rfl) (by decide) (hi) ?_
  refine J_if_eq (tgt := 19) dX7_anew_8 (by decide) (fun c => absurd c (by decide)) (fun _ => ?_)
  refine J_aload_0 dX7_anew_11 ?_
  refine J_iload_1 dX7_anew_12 ?_
  refine J_cV1 dX7_anew_13 jmX7_anewOf mv_X7_222 h0 rfl (Nat.le_of_ble_eq_true rfl) (by decide) (m_anewN ⟨_, _, p⟩) (fun r h' q => ?_)
  obtain ⟨rfl, p2, o2⟩ := q
  refine J_goto (tgt := 21) dX7_anew_16 (by decide) ?_
  exact J_iret dX7_anew_21 rfl (⟨rfl, p2, o2⟩)
theorem m_anew_i (p : mdAt h D tb F) {i : Nat} (hi : i < 10000) : Ct X mX7_anew 4 [.ref 51, .int (nI i)] h (fun r h' => r = some (.int (sAnewI D i)) ∧ moAt h' D ∧ offB h h' 51 71) := by
  have h0 := p.1
  have hn := m_in (X := X) (h := h) (v := nI i) (a := -1) (b := nI 9999)
  rw [if_pos ⟨Int32.le_iff_toInt_le.mpr (by rw [nI_toInt (by omega), show (-1 : Int32).toInt = -1 from by decide]; omega), (nI_leI (by omega) (by decide)).mpr (by omega)⟩] at hn
  refine Ct_of jmX7_anew [some (.ref 51), some (.int (nI i))] (Nat.le_of_ble_eq_true rfl) rfl ?_
  show J X RX7 cX7_anew 2 _ (some .int) _ 0 _ _ _
  refine J_iload_1 dX7_anew_0 ?_
  refine J_iconst (v := -1) dX7_anew_1 (by decide) ?_
  refine J_sipush (v := nI 9999) dX7_anew_2 (by decide) ?_
  refine J_cS3i dX7_anew_5 jmX7_in ms_X7_69 (Nat.le_of_ble_eq_true rfl) (by decide) (hn) ?_
  refine J_if_eq (tgt := 19) dX7_anew_8 (by decide) (fun c => absurd c (by decide)) (fun _ => ?_)
  refine J_aload_0 dX7_anew_11 ?_
  refine J_iload_1 dX7_anew_12 ?_
  refine J_cV1 dX7_anew_13 jmX7_anewOf mv_X7_222 h0 rfl (Nat.le_of_ble_eq_true rfl) (by decide) (m_anewI ⟨_, _, p⟩ hi) (fun r h' q => ?_)
  obtain ⟨rfl, p2, o2⟩ := q
  refine J_goto (tgt := 21) dX7_anew_16 (by decide) ?_
  exact J_iret dX7_anew_21 rfl (⟨rfl, p2, o2⟩)
theorem m_count_bad {w : Int32} (hb : ¬ (0 ≤ w ∧ w < nI 9)) : CtI X mX7_count 4 [.ref 51, .int w] h (-2) := by
  have hw : w.toInt < 0 ∨ 8 < w.toInt := by
    rcases Int.lt_or_le w.toInt 0 with z | z
    · exact Or.inl z
    · right
      refine Int.lt_of_not_ge fun y => hb ⟨Int32.le_iff_toInt_le.mpr (by rw [Int32.toInt_zero]; exact z), Int32.lt_iff_toInt_lt.mpr ?_⟩
      rw [show (nI 9).toInt = 9 from by decide]
      omega
  refine Ct_of jmX7_count [some (.ref 51), some (.int w)] (Nat.le_of_ble_eq_true rfl) rfl ?_
  show J X RX7 cX7_count 2 _ (some .int) _ 0 _ _ _
  refine J_iload_1 dX7_count_0 ?_
  refine J_tabOut (tgt := 97) dX7_count_1 hw (by decide) ?_
  refine J_bipush (v := -2) dX7_count_97 (by decide) ?_
  exact J_iret dX7_count_99 rfl (⟨rfl, rfl⟩)
theorem m_count_ok (p : mdAt h D tb F) {w : Nat} (hw : w < 9) : Ct X mX7_count 4 [.ref 51, .int (nI w)] h (fun r h' => r = some (.int (sCnt D w)) ∧ moAt h' D ∧ offB h h' 51 71) := by
  obtain ⟨h0, ⟨fm, hfm, hm0⟩, -, -, ⟨fs, hfs, hfs0⟩, -⟩ := id p
  obtain ⟨m, V, q⟩ := mps_of p
  refine Ct_of jmX7_count [some (.ref 51), some (.int (nI w))] (Nat.le_of_ble_eq_true rfl) rfl ?_
  show J X RX7 cX7_count 2 _ (some .int) _ 0 _ _ _
  rcases (show w = 0 ∨ w = 1 ∨ w = 2 ∨ w = 3 ∨ w = 4 ∨ w = 5 ∨ w = 6 ∨ w = 7 ∨ w = 8 by omega) with rfl | rfl | rfl | rfl | rfl | rfl | rfl | rfl | rfl
  · refine J_iload_1 dX7_count_0 ?_
    refine J_tabN (tgt := 52) dX7_count_1 (by decide) (by decide) rfl (by decide) ?_
    refine J_aload_0 dX7_count_52 ?_
    refine J_get dX7_count_53 fl_X7_7 h0 rfl ?_
    refine J_iload_1 dX7_count_56 ?_
    refine J_iald dX7_count_57 hfm rfl (by omega) (by omega) ?_
    refine J_topi (b := nI (dn D 0)) (hm0 0 (by decide)) ?_
    exact J_iret dX7_count_58 rfl (⟨rfl, ⟨_, _, p⟩, offB.rf⟩)
  · refine J_iload_1 dX7_count_0 ?_
    refine J_tabN (tgt := 52) dX7_count_1 (by decide) (by decide) rfl (by decide) ?_
    refine J_aload_0 dX7_count_52 ?_
    refine J_get dX7_count_53 fl_X7_7 h0 rfl ?_
    refine J_iload_1 dX7_count_56 ?_
    refine J_iald dX7_count_57 hfm rfl (by omega) (by omega) ?_
    refine J_topi (b := nI (dn D 1)) (hm0 1 (by decide)) ?_
    exact J_iret dX7_count_58 rfl (⟨rfl, ⟨_, _, p⟩, offB.rf⟩)
  · refine J_iload_1 dX7_count_0 ?_
    refine J_tabN (tgt := 59) dX7_count_1 (by decide) (by decide) rfl (by decide) ?_
    refine J_aload_0 dX7_count_59 ?_
    refine J_iload_1 dX7_count_60 ?_
    refine J_iconst (v := nI 2) dX7_count_61 (by decide) ?_
    first | refine J_isubN dX7_count_62 (by omega) ?_ | refine J_isub dX7_count_62 ?_
    refine J_iconst (v := nI 1) dX7_count_63 (by decide) ?_
    refine J_cV2 dX7_count_64 jmX7_totalOf mv_X7_193 h0 rfl (Nat.le_of_ble_eq_true rfl) (by decide) (m_totalOf p q (l := 2 - 2) (w := 1) (by decide) (by decide)) (fun r h' q => ?_)
    obtain ⟨rfl, p2, -, o2⟩ := q
    exact J_iret dX7_count_67 rfl (⟨rfl, ⟨_, _, p2⟩, o2.wide (by omega) (by omega)⟩)
  · refine J_iload_1 dX7_count_0 ?_
    refine J_tabN (tgt := 59) dX7_count_1 (by decide) (by decide) rfl (by decide) ?_
    refine J_aload_0 dX7_count_59 ?_
    refine J_iload_1 dX7_count_60 ?_
    refine J_iconst (v := nI 2) dX7_count_61 (by decide) ?_
    first | refine J_isubN dX7_count_62 (by omega) ?_ | refine J_isub dX7_count_62 ?_
    refine J_iconst (v := nI 1) dX7_count_63 (by decide) ?_
    refine J_cV2 dX7_count_64 jmX7_totalOf mv_X7_193 h0 rfl (Nat.le_of_ble_eq_true rfl) (by decide) (m_totalOf p q (l := 3 - 2) (w := 1) (by decide) (by decide)) (fun r h' q => ?_)
    obtain ⟨rfl, p2, -, o2⟩ := q
    exact J_iret dX7_count_67 rfl (⟨rfl, ⟨_, _, p2⟩, o2.wide (by omega) (by omega)⟩)
  · refine J_iload_1 dX7_count_0 ?_
    refine J_tabN (tgt := 68) dX7_count_1 (by decide) (by decide) rfl (by decide) ?_
    refine J_aload_0 dX7_count_68 ?_
    refine J_iconst (v := nI 1) dX7_count_69 (by decide) ?_
    refine J_cV1 dX7_count_70 jmX7_manyPulls mv_X7_172 h0 rfl (Nat.le_of_ble_eq_true rfl) (by decide) (m_many p q (l := 1) (by decide)) (fun r h' q => ?_)
    obtain ⟨rfl, p2, -, o2⟩ := q
    exact J_iret dX7_count_73 rfl (⟨rfl, ⟨_, _, p2⟩, o2.wide (by omega) (by omega)⟩)
  · refine J_iload_1 dX7_count_0 ?_
    refine J_tabN (tgt := 74) dX7_count_1 (by decide) (by decide) rfl (by decide) ?_
    refine J_aload_0 dX7_count_74 ?_
    refine J_cV0 dX7_count_75 jmX7_keptOf mv_X7_239 h0 rfl (Nat.le_of_ble_eq_true rfl) (by decide) (m_keptOf p) (fun r h' q => ?_)
    obtain ⟨rfl, p2, o2⟩ := q
    exact J_iret dX7_count_78 rfl (⟨rfl, p2, o2⟩)
  · refine J_iload_1 dX7_count_0 ?_
    refine J_tabN (tgt := 79) dX7_count_1 (by decide) (by decide) rfl (by decide) ?_
    refine J_aload_0 dX7_count_79 ?_
    refine J_get dX7_count_80 fl_X7_28 h0 rfl ?_
    refine J_iconst (v := nI 0) dX7_count_83 (by decide) ?_
    refine J_iald dX7_count_84 hfs rfl (by omega) (by omega) ?_
    refine J_topi (b := nI (dst D 0)) (hfs0 0 (by decide)) ?_
    exact J_iret dX7_count_85 rfl (⟨rfl, ⟨_, _, p⟩, offB.rf⟩)
  · refine J_iload_1 dX7_count_0 ?_
    refine J_tabN (tgt := 86) dX7_count_1 (by decide) (by decide) rfl (by decide) ?_
    refine J_aload_0 dX7_count_86 ?_
    refine J_iconst (v := -1) dX7_count_87 (by decide) ?_
    refine J_cV1 dX7_count_88 jmX7_anewOf mv_X7_222 h0 rfl (Nat.le_of_ble_eq_true rfl) (by decide) (m_anewN ⟨_, _, p⟩) (fun r h' q => ?_)
    obtain ⟨rfl, p2, o2⟩ := q
    exact J_iret dX7_count_91 rfl (⟨rfl, p2, o2⟩)
  · refine J_iload_1 dX7_count_0 ?_
    refine J_tabN (tgt := 92) dX7_count_1 (by decide) (by decide) rfl (by decide) ?_
    refine J_aload_0 dX7_count_92 ?_
    refine J_get dX7_count_93 fl_X7_228 h0 rfl ?_
    exact J_iret dX7_count_96 rfl (⟨rfl, ⟨_, _, p⟩, offB.rf⟩)
theorem l_mdTold (p : mdAt h D tb F) {f : Nat} (hf : f < 10000000) {fin a0 : Int64} : ∀ (k w : Nat) (a : Int64), w + k = 4 → dgl (fun w => nI (toldN f (dst D 0) w)) w k a = fin → J X RX7 cX7_toldDigest 7 2 (some .long) (fun r h' => r = some (.long fin) ∧ h' = h) 6 [some (.ref 51), some (.long a0), none, some (.int (nI f)), some (.long a), none, some (.int (nI w))] [] h := by
  have h0 := p.1
  intro k
  induction k with
  | zero =>
    intro w a hw he
    have he : a = fin := he
    subst he
    refine J_iload_6 dX7_toldDigest_6 ?_
    refine J_iconst (v := nI 4) dX7_toldDigest_8 (by decide) ?_
    refine J_icmp_geN (tgt := 35) dX7_toldDigest_9 (by decide) (by omega) (by omega) (fun _ => ?_) (fun c => absurd c (by omega))
    refine J_lload_4 dX7_toldDigest_35 ?_
    exact J_lret dX7_toldDigest_37 rfl (⟨rfl, rfl⟩)
  | succ k ih =>
    intro w a hw he
    rw [dgl] at he
    refine J_iload_6 dX7_toldDigest_6 ?_
    refine J_iconst (v := nI 4) dX7_toldDigest_8 (by decide) ?_
    refine J_icmp_geN (tgt := 35) dX7_toldDigest_9 (by decide) (by omega) (by omega) (fun c => absurd c (by omega)) (fun _ => ?_)
    refine J_ldc2_w dX7_toldDigest_12 kl_X7_242 ?_
    refine J_lload_4 dX7_toldDigest_15 ?_
    refine J_lmul dX7_toldDigest_17 ?_
    refine J_aload_0 dX7_toldDigest_18 ?_
    refine J_iload_3 dX7_toldDigest_19 ?_
    refine J_iload_6 dX7_toldDigest_20 ?_
    refine J_cV2i dX7_toldDigest_22 jmX7_toldOf mv_X7_140 h0 rfl (Nat.le_of_ble_eq_true rfl) (by decide) (m_toldOf p hf (by omega)) ?_
    refine J_i2l dX7_toldDigest_25 ?_
    refine J_ladd dX7_toldDigest_26 ?_
    refine J_lstore_4 dX7_toldDigest_27 (Nat.le_of_ble_eq_true rfl) rfl ?_
    first | refine J_inc_6 dX7_toldDigest_29 (Nat.le_of_ble_eq_true rfl) rfl ?_ | refine J_iinc_6 dX7_toldDigest_29 rfl (Nat.le_of_ble_eq_true rfl) rfl ?_
    refine J_goto (tgt := 6) dX7_toldDigest_32 (by decide) ?_
    exact ih (w + 1) _ (by omega) he
theorem m_dTold (p : mdAt h D tb F) {f : Nat} (hf : f < 10000000) {a : Int64} : Ct X mX7_toldDigest 2 [.ref 51, .long a, .int (nI f)] h (fun r h' => r = some (.long (dgT D f a)) ∧ h' = h) := by
  refine Ct_of jmX7_toldDigest [some (.ref 51), some (.long a), none, some (.int (nI f)), none, none, none] (Nat.le_of_ble_eq_true rfl) rfl ?_
  show J X RX7 cX7_toldDigest 7 _ (some .long) _ 0 _ _ _
  refine J_lload_1 dX7_toldDigest_0 ?_
  refine J_lstore_4 dX7_toldDigest_1 (Nat.le_of_ble_eq_true rfl) rfl ?_
  refine J_iconst (v := nI 0) dX7_toldDigest_3 (by decide) ?_
  refine J_istore_6 dX7_toldDigest_4 (Nat.le_of_ble_eq_true rfl) rfl ?_
  exact l_mdTold p hf 4 0 a (by omega) rfl
theorem l_mdInfo (p : mdAt h D tb F) {l e : Nat} (hl : l < 2) (he : e < dn D l) {Q : Option Value → HF → Prop} {a0 : Int64} {fin : Int64} (kk : J X RX7 cX7_listDigest 8 5 (some .long) Q 52 [some (.ref 51), some (.long a0), none, some (.int (nI l)), some (.long fin), none, some (.int (nI e)), some (.int (nI 8))] [] h) : ∀ (k w : Nat) (a : Int64), w + k = 8 → dgl (sInfo D l e) w k a = fin →
    J X RX7 cX7_listDigest 8 5 (some .long) Q 20 [some (.ref 51), some (.long a0), none, some (.int (nI l)), some (.long a), none, some (.int (nI e)), some (.int (nI w))] [] h := by
  have h0 := p.1
  intro k
  induction k with
  | zero =>
    intro w a hw hf
    have hf : a = fin := hf
    subst hf
    obtain rfl : w = 8 := by omega
    refine J_iload_7 dX7_listDigest_20 ?_
    refine J_bipush (v := nI 8) dX7_listDigest_22 (by decide) ?_
    refine J_icmp_geN (tgt := 52) dX7_listDigest_24 (by decide) (by omega) (by omega) (fun _ => ?_) (fun c => absurd c (by omega))
    exact kk
  | succ k ih =>
    intro w a hw hf
    rw [dgl] at hf
    refine J_iload_7 dX7_listDigest_20 ?_
    refine J_bipush (v := nI 8) dX7_listDigest_22 (by decide) ?_
    refine J_icmp_geN (tgt := 52) dX7_listDigest_24 (by decide) (by omega) (by omega) (fun c => absurd c (by omega)) (fun _ => ?_)
    refine J_ldc2_w dX7_listDigest_27 kl_X7_242 ?_
    refine J_lload_4 dX7_listDigest_30 ?_
    refine J_lmul dX7_listDigest_32 ?_
    refine J_aload_0 dX7_listDigest_33 ?_
    refine J_iload_3 dX7_listDigest_34 ?_
    refine J_iload_6 dX7_listDigest_35 ?_
    refine J_iload_7 dX7_listDigest_37 ?_
    refine J_cV3i dX7_listDigest_39 jmX7_infoOf mv_X7_117 h0 rfl (Nat.le_of_ble_eq_true rfl) (by decide) (m_infoOf p hl he (by omega)) ?_
    refine J_i2l dX7_listDigest_42 ?_
    refine J_ladd dX7_listDigest_43 ?_
    refine J_lstore_4 dX7_listDigest_44 (Nat.le_of_ble_eq_true rfl) rfl ?_
    first | refine J_inc_7 dX7_listDigest_46 (Nat.le_of_ble_eq_true rfl) rfl ?_ | refine J_iinc_7 dX7_listDigest_46 rfl (Nat.le_of_ble_eq_true rfl) rfl ?_
    refine J_goto (tgt := 20) dX7_listDigest_49 (by decide) ?_
    exact ih (w + 1) _ (by omega) hf
theorem l_mdEd (p : mdAt h D tb F) {l : Nat} (hl : l < 2) {fin a0 : Int64} {Q : Option Value → HF → Prop} (kk : ∀ o7, J X RX7 cX7_listDigest 8 5 (some .long) Q 102 [some (.ref 51), some (.long a0), none, some (.int (nI l)), some (.long fin), none, some (.int (nI (dn D l))), o7] [] h) : ∀ (k e : Nat) (a : Int64) (o7 : Option Value), e + k = dn D l → dgE D l e k a = fin →
    J X RX7 cX7_listDigest 8 5 (some .long) Q 6 [some (.ref 51), some (.long a0), none, some (.int (nI l)), some (.long a), none, some (.int (nI e)), o7] [] h := by
  obtain ⟨h0, ⟨fm, hfm, hm0⟩, -⟩ := id p
  have h8 := p.2.2.2.2.2.2.2.2.2.2.2.2.2.1 l hl
  intro k
  induction k with
  | zero =>
    intro e a o7 he hf
    have hf : a = fin := hf
    subst hf
    obtain rfl : e = dn D l := by omega
    refine J_iload_6 dX7_listDigest_6 ?_
    refine J_aload_0 dX7_listDigest_8 ?_
    refine J_get dX7_listDigest_9 fl_X7_7 h0 rfl ?_
    refine J_iload_3 dX7_listDigest_12 ?_
    refine J_iald dX7_listDigest_13 hfm rfl (by omega) (by omega) ?_
    refine J_topi (b := nI (dn D l)) (hm0 l hl) ?_
    refine J_icmp_geN (tgt := 102) dX7_listDigest_14 (by decide) (by omega) (by omega) (fun _ => ?_) (fun c => absurd c (by omega))
    exact kk _
  | succ k ih =>
    intro e a o7 he hf
    rw [dgE] at hf
    refine J_iload_6 dX7_listDigest_6 ?_
    refine J_aload_0 dX7_listDigest_8 ?_
    refine J_get dX7_listDigest_9 fl_X7_7 h0 rfl ?_
    refine J_iload_3 dX7_listDigest_12 ?_
    refine J_iald dX7_listDigest_13 hfm rfl (by omega) (by omega) ?_
    refine J_topi (b := nI (dn D l)) (hm0 l hl) ?_
    refine J_icmp_geN (tgt := 102) dX7_listDigest_14 (by decide) (by omega) (by omega) (fun c => absurd c (by omega)) (fun _ => ?_)
    refine J_iconst (v := nI 0) dX7_listDigest_17 (by decide) ?_
    refine J_istore_7 dX7_listDigest_18 (Nat.le_of_ble_eq_true rfl) rfl ?_
    refine l_mdInfo p hl (by omega) ?_ 8 0 a (by omega) rfl
    refine J_ldc2_w dX7_listDigest_52 kl_X7_242 ?_
    refine J_lload_4 dX7_listDigest_55 ?_
    refine J_lmul dX7_listDigest_57 ?_
    refine J_aload_0 dX7_listDigest_58 ?_
    refine J_bipush (v := nI 8) dX7_listDigest_59 (by decide) ?_
    refine J_iload_3 dX7_listDigest_61 ?_
    first | refine J_imulN dX7_listDigest_62 ?_ | refine J_imul dX7_listDigest_62 ?_
    refine J_iload_6 dX7_listDigest_63 ?_
    first | refine J_iaddN dX7_listDigest_65 ?_ | refine J_iadd dX7_listDigest_65 ?_
    refine J_iconst (v := nI 0) dX7_listDigest_66 (by decide) ?_
    refine J_cV2i dX7_listDigest_67 jmX7_stillOf mv_X7_129 h0 rfl (Nat.le_of_ble_eq_true rfl) (by decide) (m_stillOf p hl (by omega) (w := 0) (by decide)) ?_
    refine J_i2l dX7_listDigest_70 ?_
    refine J_ladd dX7_listDigest_71 ?_
    refine J_lstore_4 dX7_listDigest_72 (Nat.le_of_ble_eq_true rfl) rfl ?_
    refine J_ldc2_w dX7_listDigest_74 kl_X7_242 ?_
    refine J_lload_4 dX7_listDigest_77 ?_
    refine J_lmul dX7_listDigest_79 ?_
    refine J_aload_0 dX7_listDigest_80 ?_
    refine J_bipush (v := nI 8) dX7_listDigest_81 (by decide) ?_
    refine J_iload_3 dX7_listDigest_83 ?_
    first | refine J_imulN dX7_listDigest_84 ?_ | refine J_imul dX7_listDigest_84 ?_
    refine J_iload_6 dX7_listDigest_85 ?_
    first | refine J_iaddN dX7_listDigest_87 ?_ | refine J_iadd dX7_listDigest_87 ?_
    refine J_iconst (v := nI 1) dX7_listDigest_88 (by decide) ?_
    refine J_cV2i dX7_listDigest_89 jmX7_stillOf mv_X7_129 h0 rfl (Nat.le_of_ble_eq_true rfl) (by decide) (m_stillOf p hl (by omega) (w := 1) (by decide)) ?_
    refine J_i2l dX7_listDigest_92 ?_
    refine J_ladd dX7_listDigest_93 ?_
    refine J_lstore_4 dX7_listDigest_94 (Nat.le_of_ble_eq_true rfl) rfl ?_
    first | refine J_inc_6 dX7_listDigest_96 (Nat.le_of_ble_eq_true rfl) rfl ?_ | refine J_iinc_6 dX7_listDigest_96 rfl (Nat.le_of_ble_eq_true rfl) rfl ?_
    refine J_goto (tgt := 6) dX7_listDigest_99 (by decide) ?_
    exact ih (e + 1) _ _ (by omega) hf
theorem l_mdPw {h : HF} {l i : Nat} (hl : l < 2) (hi : i < 8) {Q : Option Value → HF → Prop} {a0 fin : Int64} (kk : ∀ h1, moAt h1 D → offB h h1 51 71 → J X RX7 cX7_listDigest 8 5 (some .long) Q 146 [some (.ref 51), some (.long a0), none, some (.int (nI l)), some (.long fin), none, some (.int (nI i)), some (.int (nI 5))] [] h1) : ∀ (k w : Nat) (a : Int64) (h1 : HF), w + k = 5 → moAt h1 D → offB h h1 51 71 → dgl (sPull D l i) w k a = fin →
    J X RX7 cX7_listDigest 8 5 (some .long) Q 115 [some (.ref 51), some (.long a0), none, some (.int (nI l)), some (.long a), none, some (.int (nI i)), some (.int (nI w))] [] h1 := by
  intro k
  induction k with
  | zero =>
    intro w a h1 hw p ho hf
    have hf : a = fin := hf
    subst hf
    obtain rfl : w = 5 := by omega
    refine J_iload_7 dX7_listDigest_115 ?_
    refine J_iconst (v := nI 5) dX7_listDigest_117 (by decide) ?_
    refine J_icmp_geN (tgt := 146) dX7_listDigest_118 (by decide) (by omega) (by omega) (fun _ => ?_) (fun c => absurd c (by omega))
    exact kk h1 p ho
  | succ k ih =>
    intro w a h1 hw p ho hf
    obtain ⟨tb, F, p⟩ := p
    obtain ⟨m, V, q⟩ := mps_of p
    have h0 := p.1
    rw [dgl] at hf
    refine J_iload_7 dX7_listDigest_115 ?_
    refine J_iconst (v := nI 5) dX7_listDigest_117 (by decide) ?_
    refine J_icmp_geN (tgt := 146) dX7_listDigest_118 (by decide) (by omega) (by omega) (fun c => absurd c (by omega)) (fun _ => ?_)
    refine J_ldc2_w dX7_listDigest_121 kl_X7_242 ?_
    refine J_lload_4 dX7_listDigest_124 ?_
    refine J_lmul dX7_listDigest_126 ?_
    refine J_aload_0 dX7_listDigest_127 ?_
    refine J_iload_3 dX7_listDigest_128 ?_
    refine J_iload_6 dX7_listDigest_129 ?_
    refine J_iload_7 dX7_listDigest_131 ?_
    refine J_cV3 dX7_listDigest_133 jmX7_pullFor mv_X7_178 h0 rfl (Nat.le_of_ble_eq_true rfl) (by decide) (m_pullFor p q hl hi (by omega)) (fun r h' q => ?_)
    obtain ⟨rfl, p2, -, o2⟩ := q
    refine J_i2l dX7_listDigest_136 ?_
    refine J_ladd dX7_listDigest_137 ?_
    refine J_lstore_4 dX7_listDigest_138 (Nat.le_of_ble_eq_true rfl) rfl ?_
    first | refine J_inc_7 dX7_listDigest_140 (Nat.le_of_ble_eq_true rfl) rfl ?_ | refine J_iinc_7 dX7_listDigest_140 rfl (Nat.le_of_ble_eq_true rfl) rfl ?_
    refine J_goto (tgt := 115) dX7_listDigest_143 (by decide) ?_
    exact ih (w + 1) _ _ (by omega) ⟨_, _, p2⟩ (ho.tr (o2.wide (by omega) (by omega))) hf
theorem l_mdPi {h : HF} {l : Nat} (hl : l < 2) {Q : Option Value → HF → Prop} {a0 fin : Int64} (kk : ∀ h1 o7, moAt h1 D → offB h h1 51 71 → J X RX7 cX7_listDigest 8 5 (some .long) Q 152 [some (.ref 51), some (.long a0), none, some (.int (nI l)), some (.long fin), none, some (.int (nI 8)), o7] [] h1) : ∀ (k i : Nat) (a : Int64) (h1 : HF) (o7 : Option Value), i + k = 8 → moAt h1 D → offB h h1 51 71 → dgP D l i k a = fin →
    J X RX7 cX7_listDigest 8 5 (some .long) Q 105 [some (.ref 51), some (.long a0), none, some (.int (nI l)), some (.long a), none, some (.int (nI i)), o7] [] h1 := by
  intro k
  induction k with
  | zero =>
    intro i a h1 o7 hi p ho hf
    have hf : a = fin := hf
    subst hf
    obtain rfl : i = 8 := by omega
    refine J_iload_6 dX7_listDigest_105 ?_
    refine J_bipush (v := nI 8) dX7_listDigest_107 (by decide) ?_
    refine J_icmp_geN (tgt := 152) dX7_listDigest_109 (by decide) (by omega) (by omega) (fun _ => ?_) (fun c => absurd c (by omega))
    exact kk h1 _ p ho
  | succ k ih =>
    intro i a h1 o7 hi p ho hf
    rw [dgP] at hf
    refine J_iload_6 dX7_listDigest_105 ?_
    refine J_bipush (v := nI 8) dX7_listDigest_107 (by decide) ?_
    refine J_icmp_geN (tgt := 152) dX7_listDigest_109 (by decide) (by omega) (by omega) (fun c => absurd c (by omega)) (fun _ => ?_)
    refine J_iconst (v := nI 0) dX7_listDigest_112 (by decide) ?_
    refine J_istore_7 dX7_listDigest_113 (Nat.le_of_ble_eq_true rfl) rfl ?_
    refine l_mdPw (h := h) hl (by omega) (fun h2 p2 o2 => ?_) 5 0 a h1 (by omega) p ho rfl
    first | refine J_inc_6 dX7_listDigest_146 (Nat.le_of_ble_eq_true rfl) rfl ?_ | refine J_iinc_6 dX7_listDigest_146 rfl (Nat.le_of_ble_eq_true rfl) rfl ?_
    refine J_goto (tgt := 105) dX7_listDigest_149 (by decide) ?_
    exact ih (i + 1) _ _ _ (by omega) p2 o2 hf
theorem l_mdTo {h : HF} {l : Nat} (hl : l < 2) {Q : Option Value → HF → Prop} {a0 fin : Int64} (kk : ∀ h1 o7, moAt h1 D → offB h h1 51 71 → J X RX7 cX7_listDigest 8 5 (some .long) Q 199 [some (.ref 51), some (.long a0), none, some (.int (nI l)), some (.long fin), none, some (.int (nI 3)), o7] [] h1) : ∀ (k w : Nat) (a : Int64) (h1 : HF) (o7 : Option Value), w + k = 3 → moAt h1 D → offB h h1 51 71 → dgl (sTotal D l) w k a = fin →
    J X RX7 cX7_listDigest 8 5 (some .long) Q 170 [some (.ref 51), some (.long a0), none, some (.int (nI l)), some (.long a), none, some (.int (nI w)), o7] [] h1 := by
  intro k
  induction k with
  | zero =>
    intro w a h1 o7 hw p ho hf
    have hf : a = fin := hf
    subst hf
    obtain rfl : w = 3 := by omega
    refine J_iload_6 dX7_listDigest_170 ?_
    refine J_iconst (v := nI 3) dX7_listDigest_172 (by decide) ?_
    refine J_icmp_geN (tgt := 199) dX7_listDigest_173 (by decide) (by omega) (by omega) (fun _ => ?_) (fun c => absurd c (by omega))
    exact kk h1 _ p ho
  | succ k ih =>
    intro w a h1 o7 hw p ho hf
    obtain ⟨tb, F, p⟩ := p
    obtain ⟨m, V, q⟩ := mps_of p
    have h0 := p.1
    rw [dgl] at hf
    refine J_iload_6 dX7_listDigest_170 ?_
    refine J_iconst (v := nI 3) dX7_listDigest_172 (by decide) ?_
    refine J_icmp_geN (tgt := 199) dX7_listDigest_173 (by decide) (by omega) (by omega) (fun c => absurd c (by omega)) (fun _ => ?_)
    refine J_ldc2_w dX7_listDigest_176 kl_X7_242 ?_
    refine J_lload_4 dX7_listDigest_179 ?_
    refine J_lmul dX7_listDigest_181 ?_
    refine J_aload_0 dX7_listDigest_182 ?_
    refine J_iload_3 dX7_listDigest_183 ?_
    refine J_iload_6 dX7_listDigest_184 ?_
    refine J_cV2 dX7_listDigest_186 jmX7_totalOf mv_X7_193 h0 rfl (Nat.le_of_ble_eq_true rfl) (by decide) (m_totalOf p q hl (by omega)) (fun r h' q => ?_)
    obtain ⟨rfl, p2, -, o2⟩ := q
    refine J_i2l dX7_listDigest_189 ?_
    refine J_ladd dX7_listDigest_190 ?_
    refine J_lstore_4 dX7_listDigest_191 (Nat.le_of_ble_eq_true rfl) rfl ?_
    first | refine J_inc_6 dX7_listDigest_193 (Nat.le_of_ble_eq_true rfl) rfl ?_ | refine J_iinc_6 dX7_listDigest_193 rfl (Nat.le_of_ble_eq_true rfl) rfl ?_
    refine J_goto (tgt := 170) dX7_listDigest_196 (by decide) ?_
    exact ih (w + 1) _ _ _ (by omega) ⟨_, _, p2⟩ (ho.tr (o2.wide (by omega) (by omega))) hf
theorem l_mdSh (p : mdAt h D tb F) {l : Nat} (hl : l < 2) {Q : Option Value → HF → Prop} {a0 fin : Int64} {o7 : Option Value} (kk : J X RX7 cX7_listDigest 8 5 (some .long) Q 233 [some (.ref 51), some (.long a0), none, some (.int (nI l)), some (.long fin), none, some (.int (nI 4)), o7] [] h) : ∀ (k w : Nat) (a : Int64), w + k = 4 → dgl (sShows D l 7) w k a = fin →
    J X RX7 cX7_listDigest 8 5 (some .long) Q 202 [some (.ref 51), some (.long a0), none, some (.int (nI l)), some (.long a), none, some (.int (nI w)), o7] [] h := by
  have h0 := p.1
  intro k
  induction k with
  | zero =>
    intro w a hw hf
    have hf : a = fin := hf
    subst hf
    obtain rfl : w = 4 := by omega
    refine J_iload_6 dX7_listDigest_202 ?_
    refine J_iconst (v := nI 4) dX7_listDigest_204 (by decide) ?_
    refine J_icmp_geN (tgt := 233) dX7_listDigest_205 (by decide) (by omega) (by omega) (fun _ => ?_) (fun c => absurd c (by omega))
    exact kk
  | succ k ih =>
    intro w a hw hf
    rw [dgl] at hf
    refine J_iload_6 dX7_listDigest_202 ?_
    refine J_iconst (v := nI 4) dX7_listDigest_204 (by decide) ?_
    refine J_icmp_geN (tgt := 233) dX7_listDigest_205 (by decide) (by omega) (by omega) (fun c => absurd c (by omega)) (fun _ => ?_)
    refine J_ldc2_w dX7_listDigest_208 kl_X7_242 ?_
    refine J_lload_4 dX7_listDigest_211 ?_
    refine J_lmul dX7_listDigest_213 ?_
    refine J_aload_0 dX7_listDigest_214 ?_
    refine J_iload_3 dX7_listDigest_215 ?_
    refine J_bipush (v := nI 7) dX7_listDigest_216 (by decide) ?_
    refine J_iload_6 dX7_listDigest_218 ?_
    refine J_cV3i dX7_listDigest_220 jmX7_showsOf mv_X7_121 h0 rfl (Nat.le_of_ble_eq_true rfl) (by decide) (m_showsOf p hl (f := 7) (by decide) (by omega)) ?_
    refine J_i2l dX7_listDigest_223 ?_
    refine J_ladd dX7_listDigest_224 ?_
    refine J_lstore_4 dX7_listDigest_225 (Nat.le_of_ble_eq_true rfl) rfl ?_
    first | refine J_inc_6 dX7_listDigest_227 (Nat.le_of_ble_eq_true rfl) rfl ?_ | refine J_iinc_6 dX7_listDigest_227 rfl (Nat.le_of_ble_eq_true rfl) rfl ?_
    refine J_goto (tgt := 202) dX7_listDigest_230 (by decide) ?_
    exact ih (w + 1) _ (by omega) hf
theorem m_dLi (p : moAt h D) {l : Nat} (hl : l < 2) {a : Int64} : Ct X mX7_listDigest 5 [.ref 51, .long a, .int (nI l)] h (fun r h' => r = some (.long (dgLi D l (dgE D l 0 (dn D l) a))) ∧ moAt h' D ∧ offB h h' 51 71) := by
  obtain ⟨tb, F, p⟩ := p
  refine Ct_of jmX7_listDigest [some (.ref 51), some (.long a), none, some (.int (nI l)), none, none, none, none] (Nat.le_of_ble_eq_true rfl) rfl ?_
  show J X RX7 cX7_listDigest 8 _ (some .long) _ 0 _ _ _
  refine J_lload_1 dX7_listDigest_0 ?_
  refine J_lstore_4 dX7_listDigest_1 (Nat.le_of_ble_eq_true rfl) rfl ?_
  refine J_iconst (v := nI 0) dX7_listDigest_3 (by decide) ?_
  refine J_istore_6 dX7_listDigest_4 (Nat.le_of_ble_eq_true rfl) rfl ?_
  refine l_mdEd p hl (fun o7 => ?_) (dn D l) 0 a none (by omega) rfl
  refine J_iconst (v := nI 0) dX7_listDigest_102 (by decide) ?_
  refine J_istore_6 dX7_listDigest_103 (Nat.le_of_ble_eq_true rfl) rfl ?_
  refine l_mdPi (h := h) hl (fun h1 o7 p1 o1 => ?_) 8 0 _ h _ (by omega) ⟨_, _, p⟩ offB.rf rfl
  obtain ⟨tb1, F1, p1⟩ := p1
  obtain ⟨m1, V1, q1⟩ := mps_of p1
  have h0 := p1.1
  refine J_ldc2_w dX7_listDigest_152 kl_X7_242 ?_
  refine J_lload_4 dX7_listDigest_155 ?_
  refine J_lmul dX7_listDigest_157 ?_
  refine J_aload_0 dX7_listDigest_158 ?_
  refine J_iload_3 dX7_listDigest_159 ?_
  refine J_cV1 dX7_listDigest_160 jmX7_wasteOf mv_X7_190 h0 rfl (Nat.le_of_ble_eq_true rfl) (by decide) (m_wasteOf p1 q1 hl) (fun r h' q => ?_)
  obtain ⟨rfl, p2, -, o2⟩ := q
  refine J_i2l dX7_listDigest_163 ?_
  refine J_ladd dX7_listDigest_164 ?_
  refine J_lstore_4 dX7_listDigest_165 (Nat.le_of_ble_eq_true rfl) rfl ?_
  refine J_iconst (v := nI 0) dX7_listDigest_167 (by decide) ?_
  refine J_istore_6 dX7_listDigest_168 (Nat.le_of_ble_eq_true rfl) rfl ?_
  refine l_mdTo (h := h) hl (fun h3 o7 p3 o3 => ?_) 3 0 _ h' _ (by omega) ⟨_, _, p2⟩ (o1.tr (o2.wide (by omega) (by omega))) rfl
  obtain ⟨tb3, F3, p3⟩ := p3
  have k0 := p3.1
  refine J_iconst (v := nI 0) dX7_listDigest_199 (by decide) ?_
  refine J_istore_6 dX7_listDigest_200 (Nat.le_of_ble_eq_true rfl) rfl ?_
  refine l_mdSh p3 hl ?_ 4 0 _ (by omega) rfl
  refine J_ldc2_w dX7_listDigest_233 kl_X7_242 ?_
  refine J_lload_4 dX7_listDigest_236 ?_
  refine J_lmul dX7_listDigest_238 ?_
  refine J_aload_0 dX7_listDigest_239 ?_
  refine J_iload_3 dX7_listDigest_240 ?_
  refine J_iconst (v := nI 1) dX7_listDigest_241 (by decide) ?_
  refine J_bipush (v := nI 100) dX7_listDigest_242 (by decide) ?_
  refine J_iconst (v := nI 0) dX7_listDigest_244 (by decide) ?_
  refine J_cV4i dX7_listDigest_245 jmX7_seenOf mv_X7_125 k0 rfl (Nat.le_of_ble_eq_true rfl) (by decide) (m_seenOf p3 hl (r := 1) (f := 100) (w := 0) (by decide) (by decide) (by decide)) ?_
  refine J_i2l dX7_listDigest_248 ?_
  refine J_ladd dX7_listDigest_249 ?_
  refine J_lstore_4 dX7_listDigest_250 (Nat.le_of_ble_eq_true rfl) rfl ?_
  refine J_ldc2_w dX7_listDigest_252 kl_X7_242 ?_
  refine J_lload_4 dX7_listDigest_255 ?_
  refine J_lmul dX7_listDigest_257 ?_
  refine J_aload_0 dX7_listDigest_258 ?_
  refine J_iload_3 dX7_listDigest_259 ?_
  refine J_iconst (v := nI 1) dX7_listDigest_260 (by decide) ?_
  refine J_bipush (v := nI 100) dX7_listDigest_261 (by decide) ?_
  refine J_iconst (v := nI 1) dX7_listDigest_263 (by decide) ?_
  refine J_cV4i dX7_listDigest_264 jmX7_seenOf mv_X7_125 k0 rfl (Nat.le_of_ble_eq_true rfl) (by decide) (m_seenOf p3 hl (r := 1) (f := 100) (w := 1) (by decide) (by decide) (by decide)) ?_
  refine J_i2l dX7_listDigest_267 ?_
  refine J_ladd dX7_listDigest_268 ?_
  exact J_lret dX7_listDigest_269 rfl (⟨rfl, ⟨_, _, p3⟩, o3⟩)
theorem l_mdCn {h : HF} {Q : Option Value → HF → Prop} {fin : Int64} (kk : ∀ h1, moAt h1 D → offB h h1 51 71 → J X RX7 cX7_digest 5 6 (some .long) Q 31 [some (.ref 51), some (.long fin), none, some (.int (nI 8)), none] [] h1) : ∀ (k w : Nat) (a : Int64) (h1 : HF), w + k = 8 → moAt h1 D → offB h h1 51 71 → dgl (sCnt D) w k a = fin → J X RX7 cX7_digest 5 6 (some .long) Q 6 [some (.ref 51), some (.long a), none, some (.int (nI w)), none] [] h1 := by
  intro k
  induction k with
  | zero =>
    intro w a h1 hw p ho hf
    have hf : a = fin := hf
    subst hf
    obtain rfl : w = 8 := by omega
    refine J_iload_3 dX7_digest_6 ?_
    refine J_bipush (v := nI 8) dX7_digest_7 (by decide) ?_
    refine J_icmp_geN (tgt := 31) dX7_digest_9 (by decide) (by omega) (by omega) (fun _ => ?_) (fun c => absurd c (by omega))
    exact kk h1 p ho
  | succ k ih =>
    intro w a h1 hw p ho hf
    obtain ⟨tb, F, p⟩ := p
    have h0 := p.1
    rw [dgl] at hf
    refine J_iload_3 dX7_digest_6 ?_
    refine J_bipush (v := nI 8) dX7_digest_7 (by decide) ?_
    refine J_icmp_geN (tgt := 31) dX7_digest_9 (by decide) (by omega) (by omega) (fun c => absurd c (by omega)) (fun _ => ?_)
    refine J_ldc2_w dX7_digest_12 kl_X7_242 ?_
    refine J_lload_1 dX7_digest_15 ?_
    refine J_lmul dX7_digest_16 ?_
    refine J_aload_0 dX7_digest_17 ?_
    refine J_iload_3 dX7_digest_18 ?_
    refine J_cV1 dX7_digest_19 jmX7_count mv_X7_246 h0 rfl (Nat.le_of_ble_eq_true rfl) (by decide) (m_count_ok p (by omega)) (fun r h' q => ?_)
    obtain ⟨rfl, p2, o2⟩ := q
    refine J_i2l dX7_digest_22 ?_
    refine J_ladd dX7_digest_23 ?_
    refine J_lstore_1 dX7_digest_24 (Nat.le_of_ble_eq_true rfl) rfl ?_
    first | refine J_inc_3 dX7_digest_25 (Nat.le_of_ble_eq_true rfl) rfl ?_ | refine J_iinc_3 dX7_digest_25 rfl (Nat.le_of_ble_eq_true rfl) rfl ?_
    refine J_goto (tgt := 6) dX7_digest_28 (by decide) ?_
    exact ih (w + 1) _ _ (by omega) p2 (ho.tr o2) hf
theorem l_mdCw {h : HF} {e : Nat} (he : e < dn D 1) {Q : Option Value → HF → Prop} {fin : Int64} (kk : ∀ h1, moAt h1 D → offB h h1 51 71 → J X RX7 cX7_digest 5 6 (some .long) Q 87 [some (.ref 51), some (.long fin), none, some (.int (nI e)), some (.int (nI 3))] [] h1) : ∀ (k w : Nat) (a : Int64) (h1 : HF), w + k = 3 → moAt h1 D → offB h h1 51 71 → dgl (sCmp D e) w k a = fin → J X RX7 cX7_digest 5 6 (some .long) Q 60 [some (.ref 51), some (.long a), none, some (.int (nI e)), some (.int (nI w))] [] h1 := by
  intro k
  induction k with
  | zero =>
    intro w a h1 hw p ho hf
    have hf : a = fin := hf
    subst hf
    obtain rfl : w = 3 := by omega
    refine J_iload_4 dX7_digest_60 ?_
    refine J_iconst (v := nI 3) dX7_digest_62 (by decide) ?_
    refine J_icmp_geN (tgt := 87) dX7_digest_63 (by decide) (by omega) (by omega) (fun _ => ?_) (fun c => absurd c (by omega))
    exact kk h1 p ho
  | succ k ih =>
    intro w a h1 hw p ho hf
    obtain ⟨tb, F, p⟩ := p
    have h0 := p.1
    rw [dgl] at hf
    refine J_iload_4 dX7_digest_60 ?_
    refine J_iconst (v := nI 3) dX7_digest_62 (by decide) ?_
    refine J_icmp_geN (tgt := 87) dX7_digest_63 (by decide) (by omega) (by omega) (fun c => absurd c (by omega)) (fun _ => ?_)
    refine J_ldc2_w dX7_digest_66 kl_X7_242 ?_
    refine J_lload_1 dX7_digest_69 ?_
    refine J_lmul dX7_digest_70 ?_
    refine J_aload_0 dX7_digest_71 ?_
    refine J_iload_3 dX7_digest_72 ?_
    refine J_iload_4 dX7_digest_73 ?_
    refine J_cV2 dX7_digest_75 jmX7_compareOf mv_X7_212 h0 rfl (Nat.le_of_ble_eq_true rfl) (by decide) (m_compareOf p he (by omega)) (fun r h' q => ?_)
    obtain ⟨rfl, p2, o2⟩ := q
    refine J_i2l dX7_digest_78 ?_
    refine J_ladd dX7_digest_79 ?_
    refine J_lstore_1 dX7_digest_80 (Nat.le_of_ble_eq_true rfl) rfl ?_
    first | refine J_inc_4 dX7_digest_81 (Nat.le_of_ble_eq_true rfl) rfl ?_ | refine J_iinc_4 dX7_digest_81 rfl (Nat.le_of_ble_eq_true rfl) rfl ?_
    refine J_goto (tgt := 60) dX7_digest_84 (by decide) ?_
    exact ih (w + 1) _ _ (by omega) p2 (ho.tr o2) hf
theorem l_mdCe {h : HF} {Q : Option Value → HF → Prop} {fin : Int64} (kk : ∀ h1 (n : Nat) o4, moAt h1 D → offB h h1 51 71 → J X RX7 cX7_digest 5 6 (some .long) Q 93 [some (.ref 51), some (.long fin), none, some (.int (nI n)), o4] [] h1) : ∀ (k e : Nat) (a : Int64) (h1 : HF) (o4 : Option Value), e + k = dn D 1 → moAt h1 D → offB h h1 51 71 → dgC D e k a = fin → J X RX7 cX7_digest 5 6 (some .long) Q 47 [some (.ref 51), some (.long a), none, some (.int (nI e)), o4] [] h1 := by
  intro k
  induction k with
  | zero =>
    intro e a h1 o4 he p ho hf
    obtain ⟨h0, ⟨fm, hfm, hm0⟩, -⟩ := id p.choose_spec.choose_spec
    have h8 := p.choose_spec.choose_spec.2.2.2.2.2.2.2.2.2.2.2.2.2.1 1 (by decide)
    have hf : a = fin := hf
    subst hf
    refine J_iload_3 dX7_digest_47 ?_
    refine J_aload_0 dX7_digest_48 ?_
    refine J_get dX7_digest_49 fl_X7_7 h0 rfl ?_
    refine J_iconst (v := nI 1) dX7_digest_52 (by decide) ?_
    refine J_iald dX7_digest_53 hfm rfl (by omega) (by omega) ?_
    refine J_topi (b := nI (dn D 1)) (hm0 1 (by decide)) ?_
    refine J_icmp_geN (tgt := 93) dX7_digest_54 (by decide) (by omega) (by omega) (fun _ => ?_) (fun c => absurd c (by omega))
    exact kk h1 _ _ p ho
  | succ k ih =>
    intro e a h1 o4 he p ho hf
    obtain ⟨h0, ⟨fm, hfm, hm0⟩, -⟩ := id p.choose_spec.choose_spec
    have h8 := p.choose_spec.choose_spec.2.2.2.2.2.2.2.2.2.2.2.2.2.1 1 (by decide)
    rw [dgC] at hf
    refine J_iload_3 dX7_digest_47 ?_
    refine J_aload_0 dX7_digest_48 ?_
    refine J_get dX7_digest_49 fl_X7_7 h0 rfl ?_
    refine J_iconst (v := nI 1) dX7_digest_52 (by decide) ?_
    refine J_iald dX7_digest_53 hfm rfl (by omega) (by omega) ?_
    refine J_topi (b := nI (dn D 1)) (hm0 1 (by decide)) ?_
    refine J_icmp_geN (tgt := 93) dX7_digest_54 (by decide) (by omega) (by omega) (fun c => absurd c (by omega)) (fun _ => ?_)
    refine J_iconst (v := nI 0) dX7_digest_57 (by decide) ?_
    refine J_istore_4 dX7_digest_58 (Nat.le_of_ble_eq_true rfl) rfl ?_
    refine l_mdCw (h := h) (by omega) (fun h2 p2 o2 => ?_) 3 0 a h1 (by omega) p ho rfl
    first | refine J_inc_3 dX7_digest_87 (Nat.le_of_ble_eq_true rfl) rfl ?_ | refine J_iinc_3 dX7_digest_87 rfl (Nat.le_of_ble_eq_true rfl) rfl ?_
    refine J_goto (tgt := 47) dX7_digest_90 (by decide) ?_
    exact ih (e + 1) _ _ _ (by omega) p2 o2 hf
theorem m_digest (p : mdAt h D tb F) : Ct X mX7_digest 6 [.ref 51] h (fun r h' => r = some (.long (sDig D)) ∧ moAt h' D ∧ offB h h' 51 71) := by
  have hrt := rt_0 D
  refine Ct_of jmX7_digest [some (.ref 51), none, none, none, none] (Nat.le_of_ble_eq_true rfl) rfl ?_
  show J X RX7 cX7_digest 5 _ (some .long) _ 0 _ _ _
  refine J_ldc2_w dX7_digest_0 kl_X7_244 ?_
  refine J_lstore_1 dX7_digest_3 (Nat.le_of_ble_eq_true rfl) rfl ?_
  refine J_iconst (v := nI 0) dX7_digest_4 (by decide) ?_
  refine J_istore_3 dX7_digest_5 (Nat.le_of_ble_eq_true rfl) rfl ?_
  refine l_mdCn (h := h) (fun h1 p1 o1 => ?_) 8 0 17 h (by omega) ⟨_, _, p⟩ offB.rf rfl
  refine J_aload_0 dX7_digest_31 ?_
  refine J_lload_1 dX7_digest_32 ?_
  refine J_iconst (v := nI 0) dX7_digest_33 (by decide) ?_
  refine J_cV2 dX7_digest_34 jmX7_listDigest mv_X7_249 p1.choose_spec.choose_spec.1 rfl (Nat.le_of_ble_eq_true rfl) (by decide) (m_dLi p1 (l := 0) (by decide)) (fun r h' q => ?_)
  obtain ⟨rfl, p2, o2⟩ := q
  refine J_lstore_1 dX7_digest_37 (Nat.le_of_ble_eq_true rfl) rfl ?_
  refine J_aload_0 dX7_digest_38 ?_
  refine J_lload_1 dX7_digest_39 ?_
  refine J_iconst (v := nI 1) dX7_digest_40 (by decide) ?_
  refine J_cV2 dX7_digest_41 jmX7_listDigest mv_X7_249 p2.choose_spec.choose_spec.1 rfl (Nat.le_of_ble_eq_true rfl) (by decide) (m_dLi p2 (l := 1) (by decide)) (fun r h' q => ?_)
  obtain ⟨rfl, p3, o3⟩ := q
  refine J_lstore_1 dX7_digest_44 (Nat.le_of_ble_eq_true rfl) rfl ?_
  refine J_iconst (v := nI 0) dX7_digest_45 (by decide) ?_
  refine J_istore_3 dX7_digest_46 (Nat.le_of_ble_eq_true rfl) rfl ?_
  refine l_mdCe (h := h) (fun h4 n o4 p4 o4 => ?_) (dn D 1) 0 _ h' none (by omega) p3 ((o1.tr o2).tr o3) rfl
  obtain ⟨tb4, F4, p4⟩ := p4
  refine J_ldc2_w dX7_digest_93 kl_X7_242 ?_
  refine J_lload_1 dX7_digest_96 ?_
  refine J_lmul dX7_digest_97 ?_
  refine J_aload_0 dX7_digest_98 ?_
  refine J_cV0 dX7_digest_99 jmX7_goneOf mv_X7_215 p4.1 rfl (Nat.le_of_ble_eq_true rfl) (by decide) (m_goneOf p4) (fun r h' q => ?_)
  obtain ⟨rfl, pa, oa⟩ := q
  refine J_i2l dX7_digest_102 ?_
  refine J_ladd dX7_digest_103 ?_
  refine J_lstore_1 dX7_digest_104 (Nat.le_of_ble_eq_true rfl) rfl ?_
  refine J_ldc2_w dX7_digest_105 kl_X7_242 ?_
  refine J_lload_1 dX7_digest_108 ?_
  refine J_lmul dX7_digest_109 ?_
  refine J_aload_0 dX7_digest_110 ?_
  refine J_iconst (v := -1) dX7_digest_111 (by decide) ?_
  refine J_cV1 dX7_digest_112 jmX7_anewOf mv_X7_222 pa.choose_spec.choose_spec.1 rfl (Nat.le_of_ble_eq_true rfl) (by decide) (m_anewN pa) (fun r h' q => ?_)
  obtain ⟨rfl, pb, ob⟩ := q
  refine J_i2l dX7_digest_115 ?_
  refine J_ladd dX7_digest_116 ?_
  refine J_lstore_1 dX7_digest_117 (Nat.le_of_ble_eq_true rfl) rfl ?_
  refine J_ldc2_w dX7_digest_118 kl_X7_242 ?_
  refine J_lload_1 dX7_digest_121 ?_
  refine J_lmul dX7_digest_122 ?_
  refine J_aload_0 dX7_digest_123 ?_
  refine J_iconst (v := nI 0) dX7_digest_124 (by decide) ?_
  refine J_cV1 dX7_digest_125 jmX7_anewOf mv_X7_222 pb.choose_spec.choose_spec.1 rfl (Nat.le_of_ble_eq_true rfl) (by decide) (m_anewI pb (i := 0) (by decide)) (fun r h' q => ?_)
  obtain ⟨rfl, pc, oc⟩ := q
  refine J_i2l dX7_digest_128 ?_
  refine J_ladd dX7_digest_129 ?_
  refine J_lstore_1 dX7_digest_130 (Nat.le_of_ble_eq_true rfl) rfl ?_
  refine J_ldc2_w dX7_digest_131 kl_X7_242 ?_
  refine J_lload_1 dX7_digest_134 ?_
  refine J_lmul dX7_digest_135 ?_
  refine J_aload_0 dX7_digest_136 ?_
  refine J_bipush (v := nI 25) dX7_digest_137 (by decide) ?_
  refine J_cV1 dX7_digest_139 jmX7_anewOf mv_X7_222 pc.choose_spec.choose_spec.1 rfl (Nat.le_of_ble_eq_true rfl) (by decide) (m_anewI pc (i := 25) (by decide)) (fun r h' q => ?_)
  obtain ⟨rfl, ⟨tbd, Fd, pd⟩, od⟩ := q
  obtain ⟨md, Vd, qd⟩ := mps_of pd
  refine J_i2l dX7_digest_142 ?_
  refine J_ladd dX7_digest_143 ?_
  refine J_lstore_1 dX7_digest_144 (Nat.le_of_ble_eq_true rfl) rfl ?_
  refine J_ldc2_w dX7_digest_145 kl_X7_242 ?_
  refine J_lload_1 dX7_digest_148 ?_
  refine J_lmul dX7_digest_149 ?_
  refine J_aload_0 dX7_digest_150 ?_
  refine J_iconst (v := nI 0) dX7_digest_151 (by decide) ?_
  refine J_cV1 dX7_digest_152 jmX7_savingOf mv_X7_225 pd.1 rfl (Nat.le_of_ble_eq_true rfl) (by decide) (m_savingOf pd qd (w := 0) (by decide)) (fun r h' q => ?_)
  obtain ⟨rfl, pe, oe⟩ := q
  obtain ⟨me, Ve, qe⟩ := mps_of pe
  refine J_i2l dX7_digest_155 ?_
  refine J_ladd dX7_digest_156 ?_
  refine J_lstore_1 dX7_digest_157 (Nat.le_of_ble_eq_true rfl) rfl ?_
  refine J_ldc2_w dX7_digest_158 kl_X7_242 ?_
  refine J_lload_1 dX7_digest_161 ?_
  refine J_lmul dX7_digest_162 ?_
  refine J_aload_0 dX7_digest_163 ?_
  refine J_iconst (v := nI 1) dX7_digest_164 (by decide) ?_
  refine J_cV1 dX7_digest_165 jmX7_savingOf mv_X7_225 pe.1 rfl (Nat.le_of_ble_eq_true rfl) (by decide) (m_savingOf pe qe (w := 1) (by decide)) (fun r h' q => ?_)
  obtain ⟨rfl, pf, of⟩ := q
  refine J_i2l dX7_digest_168 ?_
  refine J_ladd dX7_digest_169 ?_
  refine J_lstore_1 dX7_digest_170 (Nat.le_of_ble_eq_true rfl) rfl ?_
  refine J_aload_0 dX7_digest_171 ?_
  refine J_lload_1 dX7_digest_172 ?_
  refine J_sipush (v := nI 1799) dX7_digest_173 (by decide) ?_
  refine J_cV2 dX7_digest_176 jmX7_toldDigest mv_X7_253 pf.1 rfl (Nat.le_of_ble_eq_true rfl) (by decide) (m_dTold pf (f := 1799) (by decide)) (fun r h' q => ?_)
  obtain ⟨rfl, rfl⟩ := q
  refine J_lstore_1 dX7_digest_179 (Nat.le_of_ble_eq_true rfl) rfl ?_
  refine J_aload_0 dX7_digest_180 ?_
  refine J_lload_1 dX7_digest_181 ?_
  refine J_sipush (v := nI 1800) dX7_digest_182 (by decide) ?_
  refine J_cV2 dX7_digest_185 jmX7_toldDigest mv_X7_253 pf.1 rfl (Nat.le_of_ble_eq_true rfl) (by decide) (m_dTold pf (f := 1800) (by decide)) (fun r h' q => ?_)
  obtain ⟨rfl, rfl⟩ := q
  refine J_lstore_1 dX7_digest_188 (Nat.le_of_ble_eq_true rfl) rfl ?_
  refine J_aload_0 dX7_digest_189 ?_
  refine J_lload_1 dX7_digest_190 ?_
  refine J_sipush (v := nI 17982) dX7_digest_191 (by decide) ?_
  refine J_cV2 dX7_digest_194 jmX7_toldDigest mv_X7_253 pf.1 rfl (Nat.le_of_ble_eq_true rfl) (by decide) (m_dTold pf (f := 17982) (by decide)) (fun r h' q => ?_)
  obtain ⟨rfl, rfl⟩ := q
  refine J_lstore_1 dX7_digest_197 (Nat.le_of_ble_eq_true rfl) rfl ?_
  refine J_ldc2_w dX7_digest_198 kl_X7_242 ?_
  refine J_lload_1 dX7_digest_201 ?_
  refine J_lmul dX7_digest_202 ?_
  refine J_aload_0 dX7_digest_203 ?_
  refine J_iconst (v := nI 0) dX7_digest_204 (by decide) ?_
  refine J_iconst (v := nI 1) dX7_digest_205 (by decide) ?_
  refine J_iconst (v := nI 0) dX7_digest_206 (by decide) ?_
  refine J_iconst (v := nI 0) dX7_digest_207 (by decide) ?_
  refine J_cV4i dX7_digest_208 jmX7_number mv_X7_256 pf.1 rfl (Nat.le_of_ble_eq_true rfl) (by decide) (m_number_ok pf (a := 0) (b := 1) (c := 0) (d := 0) (by decide) (by decide) (by decide) (by omega)) ?_
  refine J_i2l dX7_digest_211 ?_
  refine J_ladd dX7_digest_212 ?_
  refine J_lstore_1 dX7_digest_213 (Nat.le_of_ble_eq_true rfl) rfl ?_
  refine J_ldc2_w dX7_digest_214 kl_X7_242 ?_
  refine J_lload_1 dX7_digest_217 ?_
  refine J_lmul dX7_digest_218 ?_
  refine J_aload_0 dX7_digest_219 ?_
  refine J_iconst (v := nI 0) dX7_digest_220 (by decide) ?_
  refine J_bipush (v := nI 10) dX7_digest_221 (by decide) ?_
  refine J_iconst (v := nI 0) dX7_digest_223 (by decide) ?_
  refine J_iconst (v := nI 0) dX7_digest_224 (by decide) ?_
  refine J_cV4i dX7_digest_225 jmX7_number mv_X7_256 pf.1 rfl (Nat.le_of_ble_eq_true rfl) (by decide) (m_number_ok pf (a := 0) (b := 10) (c := 0) (d := 0) (by decide) (by decide) (by decide) (by omega)) ?_
  refine J_i2l dX7_digest_228 ?_
  refine J_ladd dX7_digest_229 ?_
  refine J_lstore_1 dX7_digest_230 (Nat.le_of_ble_eq_true rfl) rfl ?_
  refine J_ldc2_w dX7_digest_231 kl_X7_242 ?_
  refine J_lload_1 dX7_digest_234 ?_
  refine J_lmul dX7_digest_235 ?_
  refine J_aload_0 dX7_digest_236 ?_
  refine J_iconst (v := nI 1) dX7_digest_237 (by decide) ?_
  refine J_iconst (v := nI 2) dX7_digest_238 (by decide) ?_
  refine J_iconst (v := nI 3) dX7_digest_239 (by decide) ?_
  refine J_iconst (v := nI 4) dX7_digest_240 (by decide) ?_
  refine J_cV4i dX7_digest_241 jmX7_number mv_X7_256 pf.1 rfl (Nat.le_of_ble_eq_true rfl) (by decide) (m_number_ok pf (a := 1) (b := 2) (c := 3) (d := 4) (by decide) (by decide) (by decide) (by omega)) ?_
  refine J_i2l dX7_digest_244 ?_
  refine J_ladd dX7_digest_245 ?_
  exact J_lret dX7_digest_246 rfl (⟨rfl, ⟨_, _, pf⟩, (((((o4.tr oa).tr ob).tr oc).tr od).tr (oe.wide (by omega) (by omega))).tr (of.wide (by omega) (by omega))⟩)
end
