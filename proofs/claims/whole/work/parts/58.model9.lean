section
variable {X : Cx} {h : HF} {D : DS} {tb : Int32} {F : Nat → Nat → Int32}
theorem l_mcopy1 {h : HF} {s t i j m ff : Nat} (hs : s < 4) (him : i + m ≤ 60) {f4 : Nat → Int32} {Q : Option Value → HF → Prop} (kk : ∀ h1 f, hAt h1 51 (moB tb ff) → hAt h1 69 (oA 0 240 f4) → hAt h1 70 (oA 0 60 f) → (∀ k, k < m → f k = f4 (60 * s + i + k)) → offB h h1 70 71 → J X RX7 cX7_copy 7 2 (some .int) Q 157 [some (.ref 51), some (.int (nI s)), some (.int (nI i)), some (.int (nI t)), some (.int (nI j)), some (.int (nI m)), some (.int (nI 0))] [] h1) : ∀ (k e : Nat) (h1 : HF) (f : Nat → Int32), e + k = m → hAt h1 51 (moB tb ff) → hAt h1 69 (oA 0 240 f4) → hAt h1 70 (oA 0 60 f) → (∀ k, k < e → f k = f4 (60 * s + i + k)) → offB h h1 70 71 →
    J X RX7 cX7_copy 7 2 (some .int) Q 120 [some (.ref 51), some (.int (nI s)), some (.int (nI i)), some (.int (nI t)), some (.int (nI j)), some (.int (nI m)), some (.int (nI e))] [] h1 := by
  intro k
  induction k with
  | zero =>
    intro e h1 f he h0 a4 a70 hf ho
    refine J_iload_6 dX7_copy_120 ?_
    refine J_iload_5 dX7_copy_122 ?_
    refine J_icmp_geN (tgt := 154) dX7_copy_124 (by decide) (by omega) (by omega) (fun _ => ?_) (fun c => absurd c (by omega))
    refine J_iconst (v := nI 0) dX7_copy_154 (by decide) ?_
    refine J_istore_6 dX7_copy_155 (Nat.le_of_ble_eq_true rfl) rfl ?_
    exact kk h1 f h0 a4 a70 (fun k hk => hf k (by omega)) ho
  | succ k ih =>
    intro e h1 f he h0 a4 a70 hf ho
    refine J_iload_6 dX7_copy_120 ?_
    refine J_iload_5 dX7_copy_122 ?_
    refine J_icmp_geN (tgt := 154) dX7_copy_124 (by decide) (by omega) (by omega) (fun c => absurd c (by omega)) (fun _ => ?_)
    refine J_aload_0 dX7_copy_127 ?_
    refine J_get dX7_copy_128 fl_X7_65 h0 rfl ?_
    refine J_iload_6 dX7_copy_131 ?_
    refine J_aload_0 dX7_copy_133 ?_
    refine J_get dX7_copy_134 fl_X7_62 h0 rfl ?_
    refine J_bipush (v := nI 60) dX7_copy_137 (by decide) ?_
    refine J_iload_1 dX7_copy_139 ?_
    first | refine J_imulN dX7_copy_140 ?_ | refine J_imul dX7_copy_140 ?_
    refine J_iload_2 dX7_copy_141 ?_
    first | refine J_iaddN dX7_copy_142 ?_ | refine J_iadd dX7_copy_142 ?_
    refine J_iload_6 dX7_copy_143 ?_
    first | refine J_iaddN dX7_copy_145 ?_ | refine J_iadd dX7_copy_145 ?_
    refine J_iald dX7_copy_146 a4 rfl (by omega) (by omega) ?_
    refine J_iast dX7_copy_147 a70 rfl (by omega) (by omega) ?_
    first | refine J_inc_6 dX7_copy_148 (Nat.le_of_ble_eq_true rfl) rfl ?_ | refine J_iinc_6 dX7_copy_148 rfl (Nat.le_of_ble_eq_true rfl) rfl ?_
    refine J_goto (tgt := 120) dX7_copy_151 (by decide) ?_
    refine ih (e + 1) _ _ (by omega) (hAt_ne h0 (by omega)) (hAt_ne a4 (by omega)) (hAt_s a70.1) (fun k hk => ?_) (ho.hu (by omega) (by omega))
    unfold upd
    by_cases z : k = e
    · rw [if_pos z, z]
    · rw [if_neg z]; exact hf k (by omega)
theorem l_mcopy2 {h : HF} {s t i j m ff : Nat} (ht : t < 4) (him : j + m ≤ 60) {f4 g : Nat → Int32} : ∀ (k e : Nat) (h1 : HF) (f : Nat → Int32), e + k = m → hAt h1 51 (moB tb ff) → hAt h1 69 (oA 0 240 f) → hAt h1 70 (oA 0 60 g) → (∀ k, k < 240 → f k = if 60 * t + j ≤ k ∧ k < 60 * t + j + e then g (k - (60 * t + j)) else f4 k) → offB h h1 69 71 →
    J X RX7 cX7_copy 7 2 (some .int) (fun r h' => r = some (.int 1) ∧ hAt h' 70 (oA 0 60 g) ∧ (∃ f', hAt h' 69 (oA 0 240 f') ∧ ∀ k, k < 240 → f' k = if 60 * t + j ≤ k ∧ k < 60 * t + j + m then g (k - (60 * t + j)) else f4 k) ∧ offB h h' 69 71) 157 [some (.ref 51), some (.int (nI s)), some (.int (nI i)), some (.int (nI t)), some (.int (nI j)), some (.int (nI m)), some (.int (nI e))] [] h1 := by
  intro k
  induction k with
  | zero =>
    intro e h1 f he h0 a4 a70 hf ho
    obtain rfl : e = m := by omega
    refine J_iload_6 dX7_copy_157 ?_
    refine J_iload_5 dX7_copy_159 ?_
    refine J_icmp_geN (tgt := 192) dX7_copy_161 (by decide) (by omega) (by omega) (fun _ => ?_) (fun c => absurd c (by omega))
    refine J_iconst (v := nI 1) dX7_copy_192 (by decide) ?_
    exact J_iret dX7_copy_193 rfl (⟨rfl, a70, ⟨f, a4, hf⟩, ho⟩)
  | succ k ih =>
    intro e h1 f he h0 a4 a70 hf ho
    refine J_iload_6 dX7_copy_157 ?_
    refine J_iload_5 dX7_copy_159 ?_
    refine J_icmp_geN (tgt := 192) dX7_copy_161 (by decide) (by omega) (by omega) (fun c => absurd c (by omega)) (fun _ => ?_)
    refine J_aload_0 dX7_copy_164 ?_
    refine J_get dX7_copy_165 fl_X7_62 h0 rfl ?_
    refine J_bipush (v := nI 60) dX7_copy_168 (by decide) ?_
    refine J_iload_3 dX7_copy_170 ?_
    first | refine J_imulN dX7_copy_171 ?_ | refine J_imul dX7_copy_171 ?_
    refine J_iload_4 dX7_copy_172 ?_
    first | refine J_iaddN dX7_copy_174 ?_ | refine J_iadd dX7_copy_174 ?_
    refine J_iload_6 dX7_copy_175 ?_
    first | refine J_iaddN dX7_copy_177 ?_ | refine J_iadd dX7_copy_177 ?_
    refine J_aload_0 dX7_copy_178 ?_
    refine J_get dX7_copy_179 fl_X7_65 h0 rfl ?_
    refine J_iload_6 dX7_copy_182 ?_
    refine J_iald dX7_copy_184 a70 rfl (by omega) (by omega) ?_
    refine J_iast dX7_copy_185 a4 rfl (by omega) (by omega) ?_
    first | refine J_inc_6 dX7_copy_186 (Nat.le_of_ble_eq_true rfl) rfl ?_ | refine J_iinc_6 dX7_copy_186 rfl (Nat.le_of_ble_eq_true rfl) rfl ?_
    refine J_goto (tgt := 157) dX7_copy_189 (by decide) ?_
    refine ih (e + 1) _ _ (by omega) (hAt_ne h0 (by omega)) (hAt_s a4.1) (hAt_ne a70 (by omega)) (fun k hk => ?_) (ho.hu (by omega) (by omega))
    unfold upd
    by_cases z : k = 60 * t + j + e
    · rw [if_pos z, if_pos (by omega), z]; congr 1; omega
    · rw [if_neg z, hf k hk]; by_cases y : 60 * t + j ≤ k ∧ k < 60 * t + j + e; (rw [if_pos y, if_pos (by omega)]); (rw [if_neg y, if_neg (by omega)])
theorem m_copy_ok (p : mdAt h D tb F) {s t i j m : Nat} (hs : s < 4) (ht : t < 4) (l1 : (dsh D s).1 = false) (l2 : (dsh D t).1 = false) (hf : (dsh D s).2.1 = (dsh D t).2.1) (h1 : i + m ≤ (dsh D s).2.2.1) (h2 : j + m ≤ (dsh D t).2.2.1) : Ct X mX7_copy 2 [.ref 51, .int (nI s), .int (nI i), .int (nI t), .int (nI j), .int (nI m)] h (fun r h' => r = some (.int 1) ∧ moAt h' (dSH D t (false, (dsh D t).2.1, (dsh D t).2.2.1, va_cpy (dsh D s).2.2.2 (dsh D t).2.2.2 i j m)) ∧ offB h h' 51 71) := by
  obtain ⟨h0, -, -, -, -, -, ⟨⟨f1, a1, b1⟩, ⟨f2, a2, b2⟩, ⟨f3, a3, b3⟩, ⟨f4, a4, b4⟩⟩, -⟩ := id p
  obtain ⟨f70, a70⟩ := m_70 p
  have ks := m_shk p hs
  have kt := m_shk p ht
  have e1 := (b1 s hs).trans (if_neg (by rw [l1]; decide))
  have e2 := (b1 t ht).trans (if_neg (by rw [l2]; decide))
  refine Ct_of jmX7_copy [some (.ref 51), some (.int (nI s)), some (.int (nI i)), some (.int (nI t)), some (.int (nI j)), some (.int (nI m)), none] (Nat.le_of_ble_eq_true rfl) rfl ?_
  show J X RX7 cX7_copy 7 _ (some .int) _ 0 _ _ _
  refine J_iload_1 dX7_copy_0 ?_
  refine J_cS1i dX7_copy_1 jmX7_isSheet ms_X7_100 (Nat.le_of_ble_eq_true rfl) (by decide) (m_sheetT hs) ?_
  refine J_if_eq (tgt := 14) dX7_copy_4 (by decide) (fun c => absurd c (by decide)) (fun _ => ?_)
  refine J_iload_3 dX7_copy_7 ?_
  refine J_cS1i dX7_copy_8 jmX7_isSheet ms_X7_100 (Nat.le_of_ble_eq_true rfl) (by decide) (m_sheetT ht) ?_
  refine J_if_ne (tgt := 17) dX7_copy_11 (by decide) (fun _ => ?_) (fun c => absurd c (by decide))
  refine J_aload_0 dX7_copy_17 ?_
  refine J_get dX7_copy_18 fl_X7_52 h0 rfl ?_
  refine J_iload_1 dX7_copy_21 ?_
  refine J_zald dX7_copy_22 a1 rfl (by omega) (by omega) ?_
  refine J_topi (b := 1) (e1) ?_
  refine J_if_eq (tgt := 35) dX7_copy_23 (by decide) (fun c => absurd c (by decide)) (fun _ => ?_)
  refine J_aload_0 dX7_copy_26 ?_
  refine J_get dX7_copy_27 fl_X7_52 h0 rfl ?_
  refine J_iload_3 dX7_copy_30 ?_
  refine J_zald dX7_copy_31 a1 rfl (by omega) (by omega) ?_
  refine J_topi (b := 1) (e2) ?_
  refine J_if_ne (tgt := 41) dX7_copy_32 (by decide) (fun _ => ?_) (fun c => absurd c (by decide))
  refine J_aload_0 dX7_copy_41 ?_
  refine J_get dX7_copy_42 fl_X7_56 h0 rfl ?_
  refine J_iload_1 dX7_copy_45 ?_
  refine J_iald dX7_copy_46 a2 rfl (by omega) (by omega) ?_
  refine J_topi (b := nI (dsh D s).2.1) (b2 s hs) ?_
  refine J_aload_0 dX7_copy_47 ?_
  refine J_get dX7_copy_48 fl_X7_56 h0 rfl ?_
  refine J_iload_3 dX7_copy_51 ?_
  refine J_iald dX7_copy_52 a2 rfl (by omega) (by omega) ?_
  refine J_topi (b := nI (dsh D t).2.1) (b2 t ht) ?_
  refine J_icmp_eqN (tgt := 62) dX7_copy_53 (by decide) (by omega) (by omega) (fun _ => ?_) (fun c => absurd c (fun z => z hf))
  refine J_iload_2 dX7_copy_62 ?_
  refine J_if_ltN (tgt := 111) dX7_copy_63 (by decide) (by omega) ?_
  refine J_iload_4 dX7_copy_66 ?_
  refine J_if_ltN (tgt := 111) dX7_copy_68 (by decide) (by omega) ?_
  refine J_iload_5 dX7_copy_71 ?_
  refine J_if_ltN (tgt := 111) dX7_copy_73 (by decide) (by omega) ?_
  refine J_iload_2 dX7_copy_76 ?_
  refine J_i2l dX7_copy_77 ?_
  refine J_iload_5 dX7_copy_78 ?_
  refine J_i2l dX7_copy_80 ?_
  refine J_ladd dX7_copy_81 ?_
  refine J_aload_0 dX7_copy_82 ?_
  refine J_get dX7_copy_83 fl_X7_59 h0 rfl ?_
  refine J_iload_1 dX7_copy_86 ?_
  refine J_iald dX7_copy_87 a3 rfl (by omega) (by omega) ?_
  refine J_topi (b := nI (dsh D s).2.2.1) (b3 s hs) ?_
  refine J_i2l dX7_copy_88 ?_
  refine J_lcmp dX7_copy_89 ?_
  refine J_if_gt (tgt := 111) dX7_copy_90 (by decide) (fun c => absurd c (fun z => absurd ((l64c (by omega) (by omega) (by omega)).mp z) (by omega))) (fun _ => ?_)
  refine J_iload_4 dX7_copy_93 ?_
  refine J_i2l dX7_copy_95 ?_
  refine J_iload_5 dX7_copy_96 ?_
  refine J_i2l dX7_copy_98 ?_
  refine J_ladd dX7_copy_99 ?_
  refine J_aload_0 dX7_copy_100 ?_
  refine J_get dX7_copy_101 fl_X7_59 h0 rfl ?_
  refine J_iload_3 dX7_copy_104 ?_
  refine J_iald dX7_copy_105 a3 rfl (by omega) (by omega) ?_
  refine J_topi (b := nI (dsh D t).2.2.1) (b3 t ht) ?_
  refine J_i2l dX7_copy_106 ?_
  refine J_lcmp dX7_copy_107 ?_
  refine J_if_le (tgt := 117) dX7_copy_108 (by decide) (fun _ => ?_) (fun c => absurd ((l64d (by omega) (by omega) (by omega)).mpr h2) c)
  refine J_iconst (v := nI 0) dX7_copy_117 (by decide) ?_
  refine J_istore_6 dX7_copy_118 (Nat.le_of_ble_eq_true rfl) rfl ?_
  refine l_mcopy1 (h := h) (tb := tb) (ff := dfi D) hs (by omega) (fun h3 g c0 c4 c70 hg o3 => ?_) m 0 h f70 (by omega) h0 a4 a70 (fun k hk => by omega) offB.rf
  refine J_mono (l_mcopy2 (h := h) (tb := tb) (ff := dfi D) (f4 := f4) ht (by omega) m 0 h3 f4 (by omega) c0 c4 c70 (fun k hk => (if_neg (by omega)).symm) (o3.wide (by omega) (by omega))) ?_
  rintro r h' ⟨e1, q0, ⟨f', q1, q2⟩, o⟩
  refine ⟨e1, ⟨tb, F, md_sheet p kt (fun b hb => o b (by omega)) ⟨g, q0⟩ ?_⟩, o.wide (by omega) (by omega)⟩
  have dh : ∀ k, dsh (dSH D t (false, (dsh D t).2.1, (dsh D t).2.2.1, va_cpy (dsh D s).2.2.2 (dsh D t).2.2.2 i j m)) k = if k = t then (false, (dsh D t).2.1, (dsh D t).2.2.1, va_cpy (dsh D s).2.2.2 (dsh D t).2.2.2 i j m) else dsh D k := fun k => rfl
  refine ⟨⟨f1, hAt_off a1 o (by omega), fun k hk => ?_⟩, ⟨f2, hAt_off a2 o (by omega), fun k hk => ?_⟩, ⟨f3, hAt_off a3 o (by omega), fun k hk => ?_⟩, ⟨f', q1, fun k e hk he => ?_⟩⟩
  · rw [dh k]; by_cases z : k = t; (rw [if_pos z, z]; exact e2); (rw [if_neg z]; exact b1 k hk)
  · rw [dh k]; by_cases z : k = t; (rw [if_pos z, z]; exact b2 t ht); (rw [if_neg z]; exact b2 k hk)
  · rw [dh k]; by_cases z : k = t; (rw [if_pos z, z]; exact b3 t ht); (rw [if_neg z]; exact b3 k hk)
  · rw [dh k, q2 _ (by omega)]
    by_cases z : k = t
    · rw [if_pos z, z]
      show _ = va_cpy (dsh D s).2.2.2 (dsh D t).2.2.2 i j m e
      unfold va_cpy
      by_cases y : j ≤ e ∧ e < j + m
      · rw [if_pos y, if_pos (by omega), hg _ (by omega), show 60 * s + i + (60 * t + e - (60 * t + j)) = 60 * s + (i + (e - j)) by omega]
        exact b4 s _ hs (by omega)
      · rw [if_neg y, if_neg (by omega)]
        exact b4 t e ht he
    · rw [if_neg z, if_neg (by omega)]
      exact b4 k e hk he
theorem m_read_bad {l s : Int32} (hb : ¬ ((∃ j, j < 2 ∧ l = nI j) ∧ ∃ k, k < 4 ∧ s = nI k)) : CtI X mX7_read 4 [.ref 51, .int l, .int s] h (-2) := by
  refine Ct_of jmX7_read [some (.ref 51), some (.int l), some (.int s), none, none] (Nat.le_of_ble_eq_true rfl) rfl ?_
  show J X RX7 cX7_read 5 _ (some .int) _ 0 _ _ _
  rcases ix_cases l 2 (by decide) with ⟨k, hk, rfl⟩ | hs
  · rcases ix_cases s 4 (by decide) with ⟨u, hu, rfl⟩ | hf
    · exact absurd ⟨⟨k, hk, rfl⟩, u, hu, rfl⟩ hb
    · refine J_iload_1 dX7_read_0 ?_
      refine J_cS1i dX7_read_1 jmX7_isList ms_X7_82 (Nat.le_of_ble_eq_true rfl) (by decide) (m_listT hk) ?_
      refine J_if_eq (tgt := 14) dX7_read_4 (by decide) (fun c => absurd c (by decide)) (fun _ => ?_)
      refine J_iload_2 dX7_read_7 ?_
      refine J_cS1i dX7_read_8 jmX7_isSheet ms_X7_100 (Nat.le_of_ble_eq_true rfl) (by decide) (m_sheetF hf) ?_
      refine J_if_ne (tgt := 17) dX7_read_11 (by decide) (fun c => absurd c (by decide)) (fun _ => ?_)
      refine J_bipush (v := -2) dX7_read_14 (by decide) ?_
      exact J_iret dX7_read_16 rfl (⟨rfl, rfl⟩)
  · refine J_iload_1 dX7_read_0 ?_
    refine J_cS1i dX7_read_1 jmX7_isList ms_X7_82 (Nat.le_of_ble_eq_true rfl) (by decide) (m_listF hs) ?_
    refine J_if_eq (tgt := 14) dX7_read_4 (by decide) (fun _ => ?_) (fun c => absurd (by decide) c)
    refine J_bipush (v := -2) dX7_read_14 (by decide) ?_
    exact J_iret dX7_read_16 rfl (⟨rfl, rfl⟩)
theorem m_read_lost (p : mdAt h D tb F) {l s : Nat} (hl : l < 2) (hs : s < 4) (hq : (dsh D s).1 = true) : Ct X mX7_read 4 [.ref 51, .int (nI l), .int (nI s)] h (fun r h' => r = some (.int (fnd 1)) ∧ moAt h' (dSF D 1) ∧ offB h h' 51 71) := by
  obtain ⟨h0, -, -, -, -, -, ⟨⟨f1, a1, b1⟩, -⟩, -⟩ := id p
  refine Ct_of jmX7_read [some (.ref 51), some (.int (nI l)), some (.int (nI s)), none, none] (Nat.le_of_ble_eq_true rfl) rfl ?_
  show J X RX7 cX7_read 5 _ (some .int) _ 0 _ _ _
  refine J_iload_1 dX7_read_0 ?_
  refine J_cS1i dX7_read_1 jmX7_isList ms_X7_82 (Nat.le_of_ble_eq_true rfl) (by decide) (m_listT hl) ?_
  refine J_if_eq (tgt := 14) dX7_read_4 (by decide) (fun c => absurd c (by decide)) (fun _ => ?_)
  refine J_iload_2 dX7_read_7 ?_
  refine J_cS1i dX7_read_8 jmX7_isSheet ms_X7_100 (Nat.le_of_ble_eq_true rfl) (by decide) (m_sheetT hs) ?_
  refine J_if_ne (tgt := 17) dX7_read_11 (by decide) (fun _ => ?_) (fun c => absurd c (by decide))
  refine J_aload_0 dX7_read_17 ?_
  refine J_get dX7_read_18 fl_X7_52 h0 rfl ?_
  refine J_iload_2 dX7_read_21 ?_
  refine J_zald dX7_read_22 a1 rfl (by omega) (by omega) ?_
  refine J_topi (b := 0) ((b1 s hs).trans (if_pos hq)) ?_
  refine J_if_ne (tgt := 32) dX7_read_23 (by decide) (fun c => absurd c (by decide)) (fun _ => ?_)
  refine J_aload_0 dX7_read_26 ?_
  refine J_iconst (v := nI 1) dX7_read_27 (by decide) ?_
  refine J_cV1 dX7_read_28 jmX7_meets mv_X7_103 h0 rfl (Nat.le_of_ble_eq_true rfl) (by decide) (m_meets p) (fun r h' q => ?_)
  obtain ⟨rfl, rfl⟩ := q
  exact J_iret dX7_read_31 rfl (⟨rfl, ⟨_, _, md_find p (by decide)⟩, offB.rf.hu (by omega) (by omega)⟩)
theorem l_mread {h : HF} {l s sz form : Nat} {lost : Bool} {it : Nat → Int32} (hl : l < 2) (hs : s < 4) {Df : DS} {kf : Nat} : ∀ (m k : Nat) (h1 : HF) (D : DS) (tb : Int32) (F : Nat → Nat → Int32), k + m = 13 → mdAt h1 D tb F → dsh D s = (lost, form, sz, it) → rdk it sz l m k D = (kf, Df) → offB h h1 51 71 →
    J X RX7 cX7_read 5 4 (some .int) (fun r h' => r = some (.int (nI kf)) ∧ moAt h' Df ∧ offB h h' 51 71) 40 [some (.ref 51), some (.int (nI l)), some (.int (nI s)), some (.int (nI k)), some (.int (nI (60 * s)))] [] h1 := by
  intro m
  induction m with
  | zero =>
    intro k h1 D tb F hk p hd hr ho
    obtain ⟨h0, -, -, -, -, -, ⟨-, -, ⟨f3, a3, b3⟩, -⟩, -⟩ := id p
    have hz := (m_shk p hs).2
    have b := b3 s hs
    rw [hd] at hz b
    dsimp only at hz b
    have ek : k = kf := congrArg Prod.fst hr
    have eD : D = Df := congrArg Prod.snd hr
    refine J_iconst (v := nI 5) dX7_read_40 (by decide) ?_
    refine J_iload_3 dX7_read_41 ?_
    first | refine J_imulN dX7_read_42 ?_ | refine J_imul dX7_read_42 ?_
    refine J_iconst (v := nI 4) dX7_read_43 (by decide) ?_
    first | refine J_iaddN dX7_read_44 ?_ | refine J_iadd dX7_read_44 ?_
    refine J_aload_0 dX7_read_45 ?_
    refine J_get dX7_read_46 fl_X7_59 h0 rfl ?_
    refine J_iload_2 dX7_read_49 ?_
    refine J_iald dX7_read_50 a3 rfl (by omega) (by omega) ?_
    refine J_topi (b := nI sz) (b) ?_
    refine J_icmp_geN (tgt := 131) dX7_read_51 (by decide) (by omega) (by omega) (fun _ => ?_) (fun c => absurd c (by omega))
    refine J_iload_3 dX7_read_131 ?_
    exact J_iret dX7_read_132 rfl (⟨by rw [← ek], ⟨_, _, eD ▸ p⟩, ho⟩)
  | succ m ih =>
    intro k h1 D tb F hk p hd hr ho
    obtain ⟨h0, -, -, -, -, -, ⟨-, -, ⟨f3, a3, b3⟩, ⟨f4, a4, b4⟩⟩, -⟩ := id p
    have hz := (m_shk p hs).2
    have b := b3 s hs
    have b5 := fun j (hj : j < 60) => b4 s j hs hj
    have h8 := p.2.2.2.2.2.2.2.2.2.2.2.2.2.1 l hl
    rw [hd] at hz b b5
    dsimp only at hz b b5
    rw [rdk] at hr
    by_cases h5 : 5 * k + 5 ≤ sz
    · have i0 : f4 (60 * s + 5 * k) = it (5 * k) := b5 (5 * k) (by omega)
      have i1 : f4 (60 * s + 5 * k + 1) = it (5 * k + 1) := b5 (5 * k + 1) (by omega)
      have i2 : f4 (60 * s + 5 * k + 2) = it (5 * k + 2) := b5 (5 * k + 2) (by omega)
      have i3 : f4 (60 * s + 5 * k + 3) = it (5 * k + 3) := b5 (5 * k + 3) (by omega)
      have i4 : f4 (60 * s + 5 * k + 4) = it (5 * k + 4) := b5 (5 * k + 4) (by omega)
      by_cases hq : edBt it (5 * k) = true
      · obtain ⟨oky, y0, y1, y2, y3, y4⟩ := edBt_spec hq
        have okI : edI (nI (edY it (5 * k) 0)) (nI (edY it (5 * k) 1)) (nI (edY it (5 * k) 2)) (nI (edY it (5 * k) 3)) (nI (edY it (5 * k) 4)) := by
          rw [← y0, ← y1, ← y2, ← y3, ← y4]
          exact edB_iff.mp hq
        by_cases hn : dn D l < 8
        · rw [if_pos ⟨h5, hn, hq⟩] at hr
          refine J_iconst (v := nI 5) dX7_read_40 (by decide) ?_
          refine J_iload_3 dX7_read_41 ?_
          first | refine J_imulN dX7_read_42 ?_ | refine J_imul dX7_read_42 ?_
          refine J_iconst (v := nI 4) dX7_read_43 (by decide) ?_
          first | refine J_iaddN dX7_read_44 ?_ | refine J_iadd dX7_read_44 ?_
          refine J_aload_0 dX7_read_45 ?_
          refine J_get dX7_read_46 fl_X7_59 h0 rfl ?_
          refine J_iload_2 dX7_read_49 ?_
          refine J_iald dX7_read_50 a3 rfl (by omega) (by omega) ?_
          refine J_topi (b := nI sz) (b) ?_
          refine J_icmp_geN (tgt := 131) dX7_read_51 (by decide) (by omega) (by omega) (fun c => absurd c (by omega)) (fun _ => ?_)
          refine J_aload_0 dX7_read_54 ?_
          refine J_iload_1 dX7_read_55 ?_
          refine J_aload_0 dX7_read_56 ?_
          refine J_get dX7_read_57 fl_X7_62 h0 rfl ?_
          refine J_iload_4 dX7_read_60 ?_
          refine J_iconst (v := nI 5) dX7_read_62 (by decide) ?_
          refine J_iload_3 dX7_read_63 ?_
          first | refine J_imulN dX7_read_64 ?_ | refine J_imul dX7_read_64 ?_
          first | refine J_iaddN dX7_read_65 ?_ | refine J_iadd dX7_read_65 ?_
          refine J_iald dX7_read_66 a4 rfl (by omega) (by omega) ?_
          refine J_topi (b := nI (edY it (5 * k) 0)) (i0.trans y0) ?_
          refine J_aload_0 dX7_read_67 ?_
          refine J_get dX7_read_68 fl_X7_62 h0 rfl ?_
          refine J_iload_4 dX7_read_71 ?_
          refine J_iconst (v := nI 5) dX7_read_73 (by decide) ?_
          refine J_iload_3 dX7_read_74 ?_
          first | refine J_imulN dX7_read_75 ?_ | refine J_imul dX7_read_75 ?_
          first | refine J_iaddN dX7_read_76 ?_ | refine J_iadd dX7_read_76 ?_
          refine J_iconst (v := nI 1) dX7_read_77 (by decide) ?_
          first | refine J_iaddN dX7_read_78 ?_ | refine J_iadd dX7_read_78 ?_
          refine J_iald dX7_read_79 a4 rfl (by omega) (by omega) ?_
          refine J_topi (b := nI (edY it (5 * k) 1)) (i1.trans y1) ?_
          refine J_aload_0 dX7_read_80 ?_
          refine J_get dX7_read_81 fl_X7_62 h0 rfl ?_
          refine J_iload_4 dX7_read_84 ?_
          refine J_iconst (v := nI 5) dX7_read_86 (by decide) ?_
          refine J_iload_3 dX7_read_87 ?_
          first | refine J_imulN dX7_read_88 ?_ | refine J_imul dX7_read_88 ?_
          first | refine J_iaddN dX7_read_89 ?_ | refine J_iadd dX7_read_89 ?_
          refine J_iconst (v := nI 2) dX7_read_90 (by decide) ?_
          first | refine J_iaddN dX7_read_91 ?_ | refine J_iadd dX7_read_91 ?_
          refine J_iald dX7_read_92 a4 rfl (by omega) (by omega) ?_
          refine J_topi (b := nI (edY it (5 * k) 2)) (i2.trans y2) ?_
          refine J_aload_0 dX7_read_93 ?_
          refine J_get dX7_read_94 fl_X7_62 h0 rfl ?_
          refine J_iload_4 dX7_read_97 ?_
          refine J_iconst (v := nI 5) dX7_read_99 (by decide) ?_
          refine J_iload_3 dX7_read_100 ?_
          first | refine J_imulN dX7_read_101 ?_ | refine J_imul dX7_read_101 ?_
          first | refine J_iaddN dX7_read_102 ?_ | refine J_iadd dX7_read_102 ?_
          refine J_iconst (v := nI 3) dX7_read_103 (by decide) ?_
          first | refine J_iaddN dX7_read_104 ?_ | refine J_iadd dX7_read_104 ?_
          refine J_iald dX7_read_105 a4 rfl (by omega) (by omega) ?_
          refine J_topi (b := nI (edY it (5 * k) 3)) (i3.trans y3) ?_
          refine J_aload_0 dX7_read_106 ?_
          refine J_get dX7_read_107 fl_X7_62 h0 rfl ?_
          refine J_iload_4 dX7_read_110 ?_
          refine J_iconst (v := nI 5) dX7_read_112 (by decide) ?_
          refine J_iload_3 dX7_read_113 ?_
          first | refine J_imulN dX7_read_114 ?_ | refine J_imul dX7_read_114 ?_
          first | refine J_iaddN dX7_read_115 ?_ | refine J_iadd dX7_read_115 ?_
          refine J_iconst (v := nI 4) dX7_read_116 (by decide) ?_
          first | refine J_iaddN dX7_read_117 ?_ | refine J_iadd dX7_read_117 ?_
          refine J_iald dX7_read_118 a4 rfl (by omega) (by omega) ?_
          refine J_topi (b := nI (edY it (5 * k) 4)) (i4.trans y4) ?_
          refine J_cV6 dX7_read_119 jmX7_adds mv_X7_85 h0 rfl (Nat.le_of_ble_eq_true rfl) (by decide) (m_adds_ok p hl okI oky hn) (fun r h' q => ?_)
          obtain ⟨rfl, ⟨tb2, F2, p2⟩, o2⟩ := q
          refine J_if_leN (tgt := 131) dX7_read_122 (by decide) (by omega) (fun c => absurd c (by omega)) (fun _ => ?_)
          first | refine J_inc_3 dX7_read_125 (Nat.le_of_ble_eq_true rfl) rfl ?_ | refine J_iinc_3 dX7_read_125 rfl (Nat.le_of_ble_eq_true rfl) rfl ?_
          refine J_goto (tgt := 40) dX7_read_128 (by decide) ?_
          exact ih (k + 1) _ _ _ _ (by omega) p2 hd hr (ho.tr o2)
        · rw [if_neg (fun z => hn z.2.1)] at hr
          have ek : k = kf := congrArg Prod.fst hr
          have eD : D = Df := congrArg Prod.snd hr
          refine J_iconst (v := nI 5) dX7_read_40 (by decide) ?_
          refine J_iload_3 dX7_read_41 ?_
          first | refine J_imulN dX7_read_42 ?_ | refine J_imul dX7_read_42 ?_
          refine J_iconst (v := nI 4) dX7_read_43 (by decide) ?_
          first | refine J_iaddN dX7_read_44 ?_ | refine J_iadd dX7_read_44 ?_
          refine J_aload_0 dX7_read_45 ?_
          refine J_get dX7_read_46 fl_X7_59 h0 rfl ?_
          refine J_iload_2 dX7_read_49 ?_
          refine J_iald dX7_read_50 a3 rfl (by omega) (by omega) ?_
          refine J_topi (b := nI sz) (b) ?_
          refine J_icmp_geN (tgt := 131) dX7_read_51 (by decide) (by omega) (by omega) (fun c => absurd c (by omega)) (fun _ => ?_)
          refine J_aload_0 dX7_read_54 ?_
          refine J_iload_1 dX7_read_55 ?_
          refine J_aload_0 dX7_read_56 ?_
          refine J_get dX7_read_57 fl_X7_62 h0 rfl ?_
          refine J_iload_4 dX7_read_60 ?_
          refine J_iconst (v := nI 5) dX7_read_62 (by decide) ?_
          refine J_iload_3 dX7_read_63 ?_
          first | refine J_imulN dX7_read_64 ?_ | refine J_imul dX7_read_64 ?_
          first | refine J_iaddN dX7_read_65 ?_ | refine J_iadd dX7_read_65 ?_
          refine J_iald dX7_read_66 a4 rfl (by omega) (by omega) ?_
          refine J_topi (b := nI (edY it (5 * k) 0)) (i0.trans y0) ?_
          refine J_aload_0 dX7_read_67 ?_
          refine J_get dX7_read_68 fl_X7_62 h0 rfl ?_
          refine J_iload_4 dX7_read_71 ?_
          refine J_iconst (v := nI 5) dX7_read_73 (by decide) ?_
          refine J_iload_3 dX7_read_74 ?_
          first | refine J_imulN dX7_read_75 ?_ | refine J_imul dX7_read_75 ?_
          first | refine J_iaddN dX7_read_76 ?_ | refine J_iadd dX7_read_76 ?_
          refine J_iconst (v := nI 1) dX7_read_77 (by decide) ?_
          first | refine J_iaddN dX7_read_78 ?_ | refine J_iadd dX7_read_78 ?_
          refine J_iald dX7_read_79 a4 rfl (by omega) (by omega) ?_
          refine J_topi (b := nI (edY it (5 * k) 1)) (i1.trans y1) ?_
          refine J_aload_0 dX7_read_80 ?_
          refine J_get dX7_read_81 fl_X7_62 h0 rfl ?_
          refine J_iload_4 dX7_read_84 ?_
          refine J_iconst (v := nI 5) dX7_read_86 (by decide) ?_
          refine J_iload_3 dX7_read_87 ?_
          first | refine J_imulN dX7_read_88 ?_ | refine J_imul dX7_read_88 ?_
          first | refine J_iaddN dX7_read_89 ?_ | refine J_iadd dX7_read_89 ?_
          refine J_iconst (v := nI 2) dX7_read_90 (by decide) ?_
          first | refine J_iaddN dX7_read_91 ?_ | refine J_iadd dX7_read_91 ?_
          refine J_iald dX7_read_92 a4 rfl (by omega) (by omega) ?_
          refine J_topi (b := nI (edY it (5 * k) 2)) (i2.trans y2) ?_
          refine J_aload_0 dX7_read_93 ?_
          refine J_get dX7_read_94 fl_X7_62 h0 rfl ?_
          refine J_iload_4 dX7_read_97 ?_
          refine J_iconst (v := nI 5) dX7_read_99 (by decide) ?_
          refine J_iload_3 dX7_read_100 ?_
          first | refine J_imulN dX7_read_101 ?_ | refine J_imul dX7_read_101 ?_
          first | refine J_iaddN dX7_read_102 ?_ | refine J_iadd dX7_read_102 ?_
          refine J_iconst (v := nI 3) dX7_read_103 (by decide) ?_
          first | refine J_iaddN dX7_read_104 ?_ | refine J_iadd dX7_read_104 ?_
          refine J_iald dX7_read_105 a4 rfl (by omega) (by omega) ?_
          refine J_topi (b := nI (edY it (5 * k) 3)) (i3.trans y3) ?_
          refine J_aload_0 dX7_read_106 ?_
          refine J_get dX7_read_107 fl_X7_62 h0 rfl ?_
          refine J_iload_4 dX7_read_110 ?_
          refine J_iconst (v := nI 5) dX7_read_112 (by decide) ?_
          refine J_iload_3 dX7_read_113 ?_
          first | refine J_imulN dX7_read_114 ?_ | refine J_imul dX7_read_114 ?_
          first | refine J_iaddN dX7_read_115 ?_ | refine J_iadd dX7_read_115 ?_
          refine J_iconst (v := nI 4) dX7_read_116 (by decide) ?_
          first | refine J_iaddN dX7_read_117 ?_ | refine J_iadd dX7_read_117 ?_
          refine J_iald dX7_read_118 a4 rfl (by omega) (by omega) ?_
          refine J_topi (b := nI (edY it (5 * k) 4)) (i4.trans y4) ?_
          refine J_cV6i dX7_read_119 jmX7_adds mv_X7_85 h0 rfl (Nat.le_of_ble_eq_true rfl) (by decide) (m_adds_full p hl okI oky (by omega)) ?_
          refine J_if_le (tgt := 131) dX7_read_122 (by decide) (fun _ => ?_) (fun c => absurd (by decide) c)
          refine J_iload_3 dX7_read_131 ?_
          exact J_iret dX7_read_132 rfl (⟨by rw [← ek], ⟨_, _, eD ▸ p⟩, ho⟩)
      · rw [if_neg (fun z => hq z.2.2)] at hr
        have ek : k = kf := congrArg Prod.fst hr
        have eD : D = Df := congrArg Prod.snd hr
        refine J_iconst (v := nI 5) dX7_read_40 (by decide) ?_
        refine J_iload_3 dX7_read_41 ?_
        first | refine J_imulN dX7_read_42 ?_ | refine J_imul dX7_read_42 ?_
        refine J_iconst (v := nI 4) dX7_read_43 (by decide) ?_
        first | refine J_iaddN dX7_read_44 ?_ | refine J_iadd dX7_read_44 ?_
        refine J_aload_0 dX7_read_45 ?_
        refine J_get dX7_read_46 fl_X7_59 h0 rfl ?_
        refine J_iload_2 dX7_read_49 ?_
        refine J_iald dX7_read_50 a3 rfl (by omega) (by omega) ?_
        refine J_topi (b := nI sz) (b) ?_
        refine J_icmp_geN (tgt := 131) dX7_read_51 (by decide) (by omega) (by omega) (fun c => absurd c (by omega)) (fun _ => ?_)
        refine J_aload_0 dX7_read_54 ?_
        refine J_iload_1 dX7_read_55 ?_
        refine J_aload_0 dX7_read_56 ?_
        refine J_get dX7_read_57 fl_X7_62 h0 rfl ?_
        refine J_iload_4 dX7_read_60 ?_
        refine J_iconst (v := nI 5) dX7_read_62 (by decide) ?_
        refine J_iload_3 dX7_read_63 ?_
        first | refine J_imulN dX7_read_64 ?_ | refine J_imul dX7_read_64 ?_
        first | refine J_iaddN dX7_read_65 ?_ | refine J_iadd dX7_read_65 ?_
        refine J_iald dX7_read_66 a4 rfl (by omega) (by omega) ?_
        refine J_topi (b := it (5 * k)) (i0) ?_
        refine J_aload_0 dX7_read_67 ?_
        refine J_get dX7_read_68 fl_X7_62 h0 rfl ?_
        refine J_iload_4 dX7_read_71 ?_
        refine J_iconst (v := nI 5) dX7_read_73 (by decide) ?_
        refine J_iload_3 dX7_read_74 ?_
        first | refine J_imulN dX7_read_75 ?_ | refine J_imul dX7_read_75 ?_
        first | refine J_iaddN dX7_read_76 ?_ | refine J_iadd dX7_read_76 ?_
        refine J_iconst (v := nI 1) dX7_read_77 (by decide) ?_
        first | refine J_iaddN dX7_read_78 ?_ | refine J_iadd dX7_read_78 ?_
        refine J_iald dX7_read_79 a4 rfl (by omega) (by omega) ?_
        refine J_topi (b := it (5 * k + 1)) (i1) ?_
        refine J_aload_0 dX7_read_80 ?_
        refine J_get dX7_read_81 fl_X7_62 h0 rfl ?_
        refine J_iload_4 dX7_read_84 ?_
        refine J_iconst (v := nI 5) dX7_read_86 (by decide) ?_
        refine J_iload_3 dX7_read_87 ?_
        first | refine J_imulN dX7_read_88 ?_ | refine J_imul dX7_read_88 ?_
        first | refine J_iaddN dX7_read_89 ?_ | refine J_iadd dX7_read_89 ?_
        refine J_iconst (v := nI 2) dX7_read_90 (by decide) ?_
        first | refine J_iaddN dX7_read_91 ?_ | refine J_iadd dX7_read_91 ?_
        refine J_iald dX7_read_92 a4 rfl (by omega) (by omega) ?_
        refine J_topi (b := it (5 * k + 2)) (i2) ?_
        refine J_aload_0 dX7_read_93 ?_
        refine J_get dX7_read_94 fl_X7_62 h0 rfl ?_
        refine J_iload_4 dX7_read_97 ?_
        refine J_iconst (v := nI 5) dX7_read_99 (by decide) ?_
        refine J_iload_3 dX7_read_100 ?_
        first | refine J_imulN dX7_read_101 ?_ | refine J_imul dX7_read_101 ?_
        first | refine J_iaddN dX7_read_102 ?_ | refine J_iadd dX7_read_102 ?_
        refine J_iconst (v := nI 3) dX7_read_103 (by decide) ?_
        first | refine J_iaddN dX7_read_104 ?_ | refine J_iadd dX7_read_104 ?_
        refine J_iald dX7_read_105 a4 rfl (by omega) (by omega) ?_
        refine J_topi (b := it (5 * k + 3)) (i3) ?_
        refine J_aload_0 dX7_read_106 ?_
        refine J_get dX7_read_107 fl_X7_62 h0 rfl ?_
        refine J_iload_4 dX7_read_110 ?_
        refine J_iconst (v := nI 5) dX7_read_112 (by decide) ?_
        refine J_iload_3 dX7_read_113 ?_
        first | refine J_imulN dX7_read_114 ?_ | refine J_imul dX7_read_114 ?_
        first | refine J_iaddN dX7_read_115 ?_ | refine J_iadd dX7_read_115 ?_
        refine J_iconst (v := nI 4) dX7_read_116 (by decide) ?_
        first | refine J_iaddN dX7_read_117 ?_ | refine J_iadd dX7_read_117 ?_
        refine J_iald dX7_read_118 a4 rfl (by omega) (by omega) ?_
        refine J_topi (b := it (5 * k + 4)) (i4) ?_
        refine J_cV6i dX7_read_119 jmX7_adds mv_X7_85 h0 rfl (Nat.le_of_ble_eq_true rfl) (by decide) (m_adds_bad (fun z => hq (edB_iff.mpr z))) ?_
        refine J_if_le (tgt := 131) dX7_read_122 (by decide) (fun _ => ?_) (fun c => absurd (by decide) c)
        refine J_iload_3 dX7_read_131 ?_
        exact J_iret dX7_read_132 rfl (⟨by rw [← ek], ⟨_, _, eD ▸ p⟩, ho⟩)
    · rw [if_neg (fun z => h5 z.1)] at hr
      have ek : k = kf := congrArg Prod.fst hr
      have eD : D = Df := congrArg Prod.snd hr
      refine J_iconst (v := nI 5) dX7_read_40 (by decide) ?_
      refine J_iload_3 dX7_read_41 ?_
      first | refine J_imulN dX7_read_42 ?_ | refine J_imul dX7_read_42 ?_
      refine J_iconst (v := nI 4) dX7_read_43 (by decide) ?_
      first | refine J_iaddN dX7_read_44 ?_ | refine J_iadd dX7_read_44 ?_
      refine J_aload_0 dX7_read_45 ?_
      refine J_get dX7_read_46 fl_X7_59 h0 rfl ?_
      refine J_iload_2 dX7_read_49 ?_
      refine J_iald dX7_read_50 a3 rfl (by omega) (by omega) ?_
      refine J_topi (b := nI sz) (b) ?_
      refine J_icmp_geN (tgt := 131) dX7_read_51 (by decide) (by omega) (by omega) (fun _ => ?_) (fun c => absurd c (by omega))
      refine J_iload_3 dX7_read_131 ?_
      exact J_iret dX7_read_132 rfl (⟨by rw [← ek], ⟨_, _, eD ▸ p⟩, ho⟩)
theorem m_read_ok (p : mdAt h D tb F) {l s : Nat} (hl : l < 2) (hs : s < 4) (hq : (dsh D s).1 = false) : Ct X mX7_read 4 [.ref 51, .int (nI l), .int (nI s)] h (fun r h' => r = some (.int (nI (rdk (dsh D s).2.2.2 (dsh D s).2.2.1 l 13 0 D).1)) ∧ moAt h' (rdk (dsh D s).2.2.2 (dsh D s).2.2.1 l 13 0 D).2 ∧ offB h h' 51 71) := by
  obtain ⟨h0, -, -, -, -, -, ⟨⟨f1, a1, b1⟩, -⟩, -⟩ := id p
  refine Ct_of jmX7_read [some (.ref 51), some (.int (nI l)), some (.int (nI s)), none, none] (Nat.le_of_ble_eq_true rfl) rfl ?_
  show J X RX7 cX7_read 5 _ (some .int) _ 0 _ _ _
  refine J_iload_1 dX7_read_0 ?_
  refine J_cS1i dX7_read_1 jmX7_isList ms_X7_82 (Nat.le_of_ble_eq_true rfl) (by decide) (m_listT hl) ?_
  refine J_if_eq (tgt := 14) dX7_read_4 (by decide) (fun c => absurd c (by decide)) (fun _ => ?_)
  refine J_iload_2 dX7_read_7 ?_
  refine J_cS1i dX7_read_8 jmX7_isSheet ms_X7_100 (Nat.le_of_ble_eq_true rfl) (by decide) (m_sheetT hs) ?_
  refine J_if_ne (tgt := 17) dX7_read_11 (by decide) (fun _ => ?_) (fun c => absurd c (by decide))
  refine J_aload_0 dX7_read_17 ?_
  refine J_get dX7_read_18 fl_X7_52 h0 rfl ?_
  refine J_iload_2 dX7_read_21 ?_
  refine J_zald dX7_read_22 a1 rfl (by omega) (by omega) ?_
  refine J_topi (b := 1) ((b1 s hs).trans (if_neg (by rw [hq]; decide))) ?_
  refine J_if_ne (tgt := 32) dX7_read_23 (by decide) (fun _ => ?_) (fun c => absurd c (by decide))
  refine J_iconst (v := nI 0) dX7_read_32 (by decide) ?_
  refine J_istore_3 dX7_read_33 (Nat.le_of_ble_eq_true rfl) rfl ?_
  refine J_bipush (v := nI 60) dX7_read_34 (by decide) ?_
  refine J_iload_2 dX7_read_36 ?_
  first | refine J_imulN dX7_read_37 ?_ | refine J_imul dX7_read_37 ?_
  refine J_istore_4 dX7_read_38 (Nat.le_of_ble_eq_true rfl) rfl ?_
  exact l_mread hl hs 13 0 h D tb F rfl p rfl rfl offB.rf
end
