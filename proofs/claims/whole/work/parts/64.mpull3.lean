section
variable {X : Cx} {h : HF} {D : DS} {tb : Int32} {F : Nat → Nat → Int32} {m : Nat → Nat} {V : Nat → Nat → Nat}
theorem md_row (p : mdAt h D tb F) {a : Nat} {f : Nat → Int32} (h1 : 61 ≤ a) (h2 : a < 65) : mdAt (hu h a (oA 0 16 f)) D tb F := by
  obtain ⟨⟨f0, a0⟩, ak, ⟨f3, a3⟩, ⟨f4, a4⟩⟩ := p.2.2.2.2.2.2.2.1
  refine md_off p (hAt_ne p.1 (by omega)) (fun b hb => hu_ne (by omega)) ⟨⟨f0, hAt_ne a0 (by omega)⟩, fun k hk => ?_, ⟨f3, hAt_ne a3 (by omega)⟩, ⟨f4, hAt_ne a4 (by omega)⟩⟩
  by_cases z : 61 + k = a
  · rw [z]; exact ⟨f, hAt_s (by show a < 71; omega)⟩
  · obtain ⟨g, b⟩ := ak k hk
    exact ⟨g, hAt_ne b z⟩
def mpl (D : DS) (l w : Nat) (m : Nat → Nat) (V : Nat → Nat → Nat) : Prop := m l = plN D l w ∧ ∀ j, j < plN D l w → eq4 (V (8 * l + j)) (plG D l w j)
/-- what has become of the rows of one LIST; those of the other are as they were -/
def mpQ (D : DS) (l w : Nat) (m : Nat → Nat) (V : Nat → Nat → Nat) (h' : HF) : Prop := ∃ m' V', mps h' m' V' ∧ mpl D l w m' V' ∧ (∀ j, j ≠ l → m' j = m j) ∧ ∀ j, (j < 8 * l ∨ 8 * l + 8 ≤ j) → V' j = V j
theorem mpl_o {l w l2 : Nat} {m' : Nat → Nat} {V' : Nat → Nat → Nat} (hd : dok D) (q : mpl D l w m V) (hl : l < 2) (hn : l ≠ l2) (h1 : ∀ j, j ≠ l2 → m' j = m j) (h2 : ∀ j, (j < 8 * l2 ∨ 8 * l2 + 8 ≤ j) → V' j = V j) : mpl D l w m' V' := by
  refine ⟨(h1 l hn).trans q.1, fun j hj => ?_⟩
  have := (pl_P hd (w := w) hl).1
  rw [h2 _ (by omega)]
  exact q.2 j hj
theorem l_mpullE (p : mdAt h D tb F) {l w : Nat} (hl : l < 2) (h1 : HF) {m m0 : Nat → Nat} {V V0 : Nat → Nat → Nat} {v : Int32} {o3 o4 o5 : Option Value} (p1 : mdAt h1 D tb F) (q : mps h1 m V) (ho : offB h h1 60 65) (h8 : m l ≤ 8) (hg : ga D l w (m l) V) (hm : ∀ j, j ≠ l → m j = m0 j) (hV : ∀ j, (j < 8 * l ∨ 8 * l + 8 ≤ j) → V j = V0 j) :
    J X RX7 cX7_pullsOf 6 2 none (fun r h' => r = none ∧ mdAt h' D tb F ∧ mpQ D l w m0 V0 h' ∧ offB h h' 60 65) 158 [some (.ref 51), some (.int (nI l)), some (.int v), o3, o4, o5] [] h1 := by
  have h0 := p1.1
  have hd : dok D := p.2.2.2.2.2.2.2.2
  refine J_aload_0 dX7_pullsOf_158 ?_
  refine J_iload_1 dX7_pullsOf_159 ?_
  refine J_cV1 dX7_pullsOf_160 jmX7_orders mv_X7_165 h0 rfl (Nat.le_of_ble_eq_true rfl) (by decide) (m_orders p1 q hl h8 hg) (fun r h' q => ?_)
  obtain ⟨rfl, O2, V', Q2, hV2, hg2, hs2⟩ := q
  have U := uq hd hl hg2.1 (ga_sep hg2 hs2) (gd_pl hd (w := w) hl) (sepd_pl hd hl)
  exact J_vret dX7_pullsOf_163 rfl (⟨rfl, md_ps p1 O2 Q2, ⟨m, V', Q2, ⟨U.1, fun j hj => U.2 j (by rw [U.1]; exact hj)⟩, hm, fun j hj => (hV2 j hj).trans (hV j hj)⟩, ho.tr O2⟩)
theorem l_mpullS (p : mdAt h D tb F) {l w : Nat} (hl : l < 2) {m0 : Nat → Nat} {V0 : Nat → Nat → Nat} {v : Int32} : ∀ (k s : Nat) (h1 : HF) (m : Nat → Nat) (V : Nat → Nat → Nat) (o5 : Option Value), s + k = 9 → s + m l ≤ 8 → mdAt h1 D tb F → mps h1 m V → offB h h1 60 65 → gd D l w (m l) (fun t => V (8 * l + t)) → (∀ j, j ≠ l → m j = m0 j) → (∀ j, (j < 8 * l ∨ 8 * l + 8 ≤ j) → V j = V0 j) →
    J X RX7 cX7_pullsOf 6 2 none (fun r h' => r = none ∧ mdAt h' D tb F ∧ mpQ D l w m0 V0 h' ∧ offB h h' 60 65) 135 [some (.ref 51), some (.int (nI l)), some (.int v), some (.int (nI 1)), some (.int (nI s)), o5] [] h1 := by
  intro k
  induction k with
  | zero => intro s h1 m V o5 hs h8; omega
  | succ k ih =>
    intro s h1 m V o5 hs h8 p1 q ho hg hm hV
    have h0 := p1.1
    have key : ∀ r h', jQ D l w h1 m V r h' → J X RX7 cX7_pullsOf 6 2 none (fun r h' => r = none ∧ mdAt h' D tb F ∧ mpQ D l w m0 V0 h' ∧ offB h h' 60 65) 151 [some (.ref 51), some (.int (nI l)), some (.int v), some (.int (nI 1)), some (.int (nI s)), o5] (r.toList ++ []) h' := by
      intro r h' z
      rcases z with ⟨rfl, O2, m', V', Q2, e1, e2, hm2, hV2, hg2⟩ | ⟨rfl, rfl, hn⟩
      · refine J_istore_3 dX7_pullsOf_151 (Nat.le_of_ble_eq_true rfl) rfl ?_
        first | refine J_inc_4 dX7_pullsOf_152 (Nat.le_of_ble_eq_true rfl) rfl ?_ | refine J_iinc_4 dX7_pullsOf_152 rfl (Nat.le_of_ble_eq_true rfl) rfl ?_
        refine J_goto (tgt := 135) dX7_pullsOf_155 (by decide) ?_
        exact ih (s + 1) h' m' V' _ (by omega) (by omega) (md_ps p1 O2 Q2) Q2 (ho.tr O2) hg2 (fun j hj => (hm2 j hj).trans (hm j hj)) (fun j hj => (hV2 j hj).trans (hV j hj))
      · have hga : ga D l w (m l) V := ⟨hg, fun a b ha hb hab => by
          rcases Nat.lt_trichotomy a b with z | z | z
          · exact hn a b z hb
          · exact absurd z hab
          · exact nearB_sym (hn b a z ha)⟩
        refine J_istore_3 dX7_pullsOf_151 (Nat.le_of_ble_eq_true rfl) rfl ?_
        first | refine J_inc_4 dX7_pullsOf_152 (Nat.le_of_ble_eq_true rfl) rfl ?_ | refine J_iinc_4 dX7_pullsOf_152 rfl (Nat.le_of_ble_eq_true rfl) rfl ?_
        refine J_goto (tgt := 135) dX7_pullsOf_155 (by decide) ?_
        refine J_iload_4 dX7_pullsOf_135 ?_
        refine J_bipush (v := nI 9) dX7_pullsOf_137 (by decide) ?_
        first | refine J_icmp_geN (tgt := 158) dX7_pullsOf_139 (by decide) (by omega) (by omega) (fun c139 => ?_) (fun c139 => ?_) | refine J_icmp_ge (tgt := 158) dX7_pullsOf_139 (by decide) (fun c139 => ?_) (fun c139 => ?_)
        · exact l_mpullE p hl h' p1 q ho (by omega) hga hm hV
        · refine J_iload_3 dX7_pullsOf_142 ?_
          refine J_if_eq (tgt := 158) dX7_pullsOf_143 (by decide) (fun _ => ?_) (fun c => absurd (by decide) c)
          exact l_mpullE p hl h' p1 q ho (by omega) hga hm hV
    refine J_iload_4 dX7_pullsOf_135 ?_
    refine J_bipush (v := nI 9) dX7_pullsOf_137 (by decide) ?_
    refine J_icmp_geN (tgt := 158) dX7_pullsOf_139 (by decide) (by omega) (by omega) (fun c => absurd c (by omega)) (fun _ => ?_)
    refine J_iload_3 dX7_pullsOf_142 ?_
    refine J_if_eq (tgt := 158) dX7_pullsOf_143 (by decide) (fun c => absurd c (by decide)) (fun _ => ?_)
    refine J_aload_0 dX7_pullsOf_146 ?_
    refine J_iload_1 dX7_pullsOf_147 ?_
    refine J_cV1 dX7_pullsOf_148 jmX7_joins mv_X7_162 h0 rfl (Nat.le_of_ble_eq_true rfl) (by decide) (m_joins p1 q hl (by omega) hg) (fun r h' q => ?_)
    exact key r h' q
theorem l_mpullG (p : mdAt h D tb F) {l w : Nat} (hl : l < 2) {m0 : Nat → Nat} {V0 : Nat → Nat → Nat} {v : Int32} (hv : ∀ e, e < 8 → (nI e = v ↔ e = w)) : ∀ (k i : Nat) (h1 : HF) (m : Nat → Nat) (V : Nat → Nat → Nat) (o4 o5 : Option Value), i + k = dn D l → m l ≤ i → mdAt h1 D tb F → mps h1 m V → offB h h1 60 65 → (∀ j, j < m l → sok D l w (V (8 * l + j))) → (∀ e, e < i → e ≠ w → ∃ j, j < m l ∧ (V (8 * l + j) 3).testBit e = true) → (∀ j, j ≠ l → m j = m0 j) → (∀ j, (j < 8 * l ∨ 8 * l + 8 ≤ j) → V j = V0 j) →
    J X RX7 cX7_pullsOf 6 2 none (fun r h' => r = none ∧ mdAt h' D tb F ∧ mpQ D l w m0 V0 h' ∧ offB h h' 60 65) 9 [some (.ref 51), some (.int (nI l)), some (.int v), some (.int (nI i)), o4, o5] [] h1 := by
  have hd : dok D := p.2.2.2.2.2.2.2.2
  have h8 := hd.2.2.2.2.2.1 l hl
  intro k
  induction k with
  | zero =>
    intro i h1 m V o4 o5 hi hmi p1 q ho hs ha hm hV
    obtain ⟨h0, ⟨fm, hfm, hm0⟩, -⟩ := id p1
    refine J_iload_3 dX7_pullsOf_9 ?_
    refine J_aload_0 dX7_pullsOf_10 ?_
    refine J_get dX7_pullsOf_11 fl_X7_7 h0 rfl ?_
    refine J_iload_1 dX7_pullsOf_14 ?_
    refine J_iald dX7_pullsOf_15 hfm rfl (by omega) (by omega) ?_
    refine J_topi (b := nI (dn D l)) (hm0 l hl) ?_
    refine J_icmp_geN (tgt := 130) dX7_pullsOf_16 (by decide) (by omega) (by omega) (fun _ => ?_) (fun c => absurd c (by omega))
    refine J_iconst (v := nI 1) dX7_pullsOf_130 (by decide) ?_
    refine J_istore_3 dX7_pullsOf_131 (Nat.le_of_ble_eq_true rfl) rfl ?_
    refine J_iconst (v := nI 0) dX7_pullsOf_132 (by decide) ?_
    refine J_istore_4 dX7_pullsOf_133 (Nat.le_of_ble_eq_true rfl) rfl ?_
    exact l_mpullS p hl 9 0 h1 m V _ (by omega) (by omega) p1 q ho ⟨hs, fun e he hw => ha e (by omega) hw⟩ hm hV
  | succ k ih =>
    intro i h1 m V o4 o5 hi hmi p1 q ho hs ha hm hV
    obtain ⟨h0, ⟨fm, hfm, hm0⟩, ⟨a0, a1, a2, a3, a4⟩, hF, ⟨fs, hfs, hfs0⟩, -⟩ := id p1
    obtain ⟨q0, q1, q2, q3, q4⟩ := id q
    have hil : i < dn D l := by omega
    obtain ⟨hE, ok, -⟩ := mdE p1 hl hil
    have k1 := hd.2.1
    by_cases cw : i = w
    · refine J_iload_3 dX7_pullsOf_9 ?_
      refine J_aload_0 dX7_pullsOf_10 ?_
      refine J_get dX7_pullsOf_11 fl_X7_7 h0 rfl ?_
      refine J_iload_1 dX7_pullsOf_14 ?_
      refine J_iald dX7_pullsOf_15 hfm rfl (by omega) (by omega) ?_
      refine J_topi (b := nI (dn D l)) (hm0 l hl) ?_
      refine J_icmp_geN (tgt := 130) dX7_pullsOf_16 (by decide) (by omega) (by omega) (fun c => absurd c (by omega)) (fun _ => ?_)
      refine J_bipush (v := nI 8) dX7_pullsOf_19 (by decide) ?_
      refine J_iload_1 dX7_pullsOf_21 ?_
      first | refine J_imulN dX7_pullsOf_22 ?_ | refine J_imul dX7_pullsOf_22 ?_
      refine J_iload_3 dX7_pullsOf_23 ?_
      first | refine J_iaddN dX7_pullsOf_24 ?_ | refine J_iadd dX7_pullsOf_24 ?_
      refine J_istore_4 dX7_pullsOf_25 (Nat.le_of_ble_eq_true rfl) rfl ?_
      refine J_bipush (v := nI 8) dX7_pullsOf_27 (by decide) ?_
      refine J_iload_1 dX7_pullsOf_29 ?_
      first | refine J_imulN dX7_pullsOf_30 ?_ | refine J_imul dX7_pullsOf_30 ?_
      refine J_aload_0 dX7_pullsOf_31 ?_
      refine J_get dX7_pullsOf_32 fl_X7_34 h0 rfl ?_
      refine J_iload_1 dX7_pullsOf_35 ?_
      refine J_iald dX7_pullsOf_36 q0 rfl (by omega) (by omega) ?_
      first | refine J_iaddN dX7_pullsOf_37 ?_ | refine J_iadd dX7_pullsOf_37 ?_
      refine J_istore_5 dX7_pullsOf_38 (Nat.le_of_ble_eq_true rfl) rfl ?_
      refine J_iload_3 dX7_pullsOf_40 ?_
      refine J_iload_2 dX7_pullsOf_41 ?_
      refine J_icmp_eq (tgt := 124) dX7_pullsOf_42 (by decide) (fun _ => ?_) (fun c => absurd ((hv i (by omega)).mpr cw) c)
      first | refine J_inc_3 dX7_pullsOf_124 (Nat.le_of_ble_eq_true rfl) rfl ?_ | refine J_iinc_3 dX7_pullsOf_124 rfl (Nat.le_of_ble_eq_true rfl) rfl ?_
      refine J_goto (tgt := 9) dX7_pullsOf_127 (by decide) ?_
      exact ih (i + 1) h1 m V _ _ (by omega) (by omega) p1 q ho hs (fun e he hw => ha e (by omega) hw) hm hV
    · have c' : ¬ nI i = v := fun z => cw ((hv i (by omega)).mp z)
      have go : ∀ h3 o4 o5, mps h3 (fun j => if j = l then m l + 1 else m j) (eset V (8 * l + m l) (spn D l i)) → offB h1 h3 60 65 → J X RX7 cX7_pullsOf 6 2 none (fun r h' => r = none ∧ mdAt h' D tb F ∧ mpQ D l w m0 V0 h' ∧ offB h h' 60 65) 124 [some (.ref 51), some (.int (nI l)), some (.int v), some (.int (nI i)), o4, o5] [] h3 := by
        intro h3 o4 o5 Q3 O3
        have el : (if l = l then m l + 1 else m l) = m l + 1 := if_pos rfl
        first | refine J_inc_3 dX7_pullsOf_124 (Nat.le_of_ble_eq_true rfl) rfl ?_ | refine J_iinc_3 dX7_pullsOf_124 rfl (Nat.le_of_ble_eq_true rfl) rfl ?_
        refine J_goto (tgt := 9) dX7_pullsOf_127 (by decide) ?_
        refine ih (i + 1) h3 _ _ _ _ (by omega) (by rw [el]; omega) (md_ps p1 O3 Q3) Q3 (ho.tr O3) (fun j hj => ?_) (fun e he hw => ?_) (fun j hj => (if_neg hj).trans (hm j hj)) (fun j hj => by rw [eset_n (by omega)]; exact hV j hj)
        · rw [el] at hj
          by_cases z : j = m l
          · rw [z, eset_s]; exact sok_spn hd hl hil cw
          · rw [eset_n (by omega)]; exact hs j (by omega)
        · rw [el]
          by_cases z : e = i
          · exact ⟨m l, by omega, by rw [eset_s, z]; exact spn_bit.mpr rfl⟩
          · obtain ⟨j, hj, hb⟩ := ha e (by omega) hw
            exact ⟨j, by omega, by rw [eset_n (by omega)]; exact hb⟩
      have P2 : ∀ f g, mdAt (hu (hu h1 61 (oA 0 16 f)) 62 (oA 0 16 g)) D tb F := fun f g => md_row (md_row p1 (by omega) (by omega)) (by omega) (by omega)
      have Q3 := mps_m (mps_put q (i := 8 * l + m l) (v := spn D l i)) (l := l) (x := m l + 1)
      refine J_iload_3 dX7_pullsOf_9 ?_
      refine J_aload_0 dX7_pullsOf_10 ?_
      refine J_get dX7_pullsOf_11 fl_X7_7 h0 rfl ?_
      refine J_iload_1 dX7_pullsOf_14 ?_
      refine J_iald dX7_pullsOf_15 hfm rfl (by omega) (by omega) ?_
      refine J_topi (b := nI (dn D l)) (hm0 l hl) ?_
      refine J_icmp_geN (tgt := 130) dX7_pullsOf_16 (by decide) (by omega) (by omega) (fun c => absurd c (by omega)) (fun _ => ?_)
      refine J_bipush (v := nI 8) dX7_pullsOf_19 (by decide) ?_
      refine J_iload_1 dX7_pullsOf_21 ?_
      first | refine J_imulN dX7_pullsOf_22 ?_ | refine J_imul dX7_pullsOf_22 ?_
      refine J_iload_3 dX7_pullsOf_23 ?_
      first | refine J_iaddN dX7_pullsOf_24 ?_ | refine J_iadd dX7_pullsOf_24 ?_
      refine J_istore_4 dX7_pullsOf_25 (Nat.le_of_ble_eq_true rfl) rfl ?_
      refine J_bipush (v := nI 8) dX7_pullsOf_27 (by decide) ?_
      refine J_iload_1 dX7_pullsOf_29 ?_
      first | refine J_imulN dX7_pullsOf_30 ?_ | refine J_imul dX7_pullsOf_30 ?_
      refine J_aload_0 dX7_pullsOf_31 ?_
      refine J_get dX7_pullsOf_32 fl_X7_34 h0 rfl ?_
      refine J_iload_1 dX7_pullsOf_35 ?_
      refine J_iald dX7_pullsOf_36 q0 rfl (by omega) (by omega) ?_
      first | refine J_iaddN dX7_pullsOf_37 ?_ | refine J_iadd dX7_pullsOf_37 ?_
      refine J_istore_5 dX7_pullsOf_38 (Nat.le_of_ble_eq_true rfl) rfl ?_
      refine J_iload_3 dX7_pullsOf_40 ?_
      refine J_iload_2 dX7_pullsOf_41 ?_
      refine J_icmp_eq (tgt := 124) dX7_pullsOf_42 (by decide) (fun c => absurd c c') (fun _ => ?_)
      refine J_aload_0 dX7_pullsOf_45 ?_
      refine J_get dX7_pullsOf_46 fl_X7_37 h0 rfl ?_
      refine J_iload_5 dX7_pullsOf_49 ?_
      refine J_aload_0 dX7_pullsOf_51 ?_
      refine J_get dX7_pullsOf_52 fl_X7_13 h0 rfl ?_
      refine J_iload_4 dX7_pullsOf_55 ?_
      refine J_iald dX7_pullsOf_57 a0 rfl (by omega) (by omega) ?_
      refine J_topi (b := nI (de D l i 0)) (hF l i 0 hl hil (by decide)) ?_
      refine J_iast dX7_pullsOf_58 q1 rfl (by omega) (by omega) ?_
      refine J_aload_0 dX7_pullsOf_59 ?_
      refine J_get dX7_pullsOf_60 fl_X7_40 (hAt_ne h0 (by omega)) rfl ?_
      refine J_iload_5 dX7_pullsOf_63 ?_
      refine J_iconst (v := nI 0) dX7_pullsOf_65 (by decide) ?_
      refine J_aload_0 dX7_pullsOf_66 ?_
      refine J_get dX7_pullsOf_67 fl_X7_16 (hAt_ne h0 (by omega)) rfl ?_
      refine J_iload_4 dX7_pullsOf_70 ?_
      refine J_iald dX7_pullsOf_72 (hAt_ne a1 (by omega)) rfl (by omega) (by omega) ?_
      refine J_topi (b := nI (de D l i 1)) (hF l i 1 hl hil (by decide)) ?_
      refine J_aload_0 dX7_pullsOf_73 ?_
      refine J_get dX7_pullsOf_74 fl_X7_28 (hAt_ne h0 (by omega)) rfl ?_
      refine J_iconst (v := nI 1) dX7_pullsOf_77 (by decide) ?_
      refine J_iald dX7_pullsOf_78 (hAt_ne hfs (by omega)) rfl (by omega) (by omega) ?_
      refine J_topi (b := nI (dst D 1)) (hfs0 1 (by decide)) ?_
      refine J_isub dX7_pullsOf_79 ?_
      refine J_cS2i dX7_pullsOf_80 jmX7_max ms_X7_152 (Nat.le_of_ble_eq_true rfl) (by decide) (m_max) ?_
      refine J_topi (b := nI (de D l i 1 - dst D 1)) (max0N (by have := ok.2.1; omega) (by omega)) ?_
      refine J_iast dX7_pullsOf_83 (hAt_ne q2 (by omega)) rfl (by omega) (by omega) ?_
      refine J_aload_0 dX7_pullsOf_84 ?_
      refine J_get dX7_pullsOf_85 fl_X7_43 (hAt_ne (hAt_ne h0 (by omega)) (by omega)) rfl ?_
      refine J_iload_5 dX7_pullsOf_88 ?_
      refine J_aload_0 dX7_pullsOf_90 ?_
      refine J_iload_4 dX7_pullsOf_91 ?_
      refine J_cV1i dX7_pullsOf_93 jmX7_lastOf mv_X7_114 (hAt_ne (hAt_ne h0 (by omega)) (by omega)) rfl (Nat.le_of_ble_eq_true rfl) (by decide) (m_lastOf (P2 _ _) hl hil) ?_
      refine J_aload_0 dX7_pullsOf_96 ?_
      refine J_get dX7_pullsOf_97 fl_X7_28 (hAt_ne (hAt_ne h0 (by omega)) (by omega)) rfl ?_
      refine J_iconst (v := nI 1) dX7_pullsOf_100 (by decide) ?_
      refine J_iald dX7_pullsOf_101 (hAt_ne (hAt_ne hfs (by omega)) (by omega)) rfl (by omega) (by omega) ?_
      refine J_topi (b := nI (dst D 1)) (hfs0 1 (by decide)) ?_
      first | refine J_iaddN dX7_pullsOf_102 ?_ | refine J_iadd dX7_pullsOf_102 ?_
      refine J_iast dX7_pullsOf_103 (hAt_ne (hAt_ne q3 (by omega)) (by omega)) rfl (by omega) (by omega) ?_
      refine J_aload_0 dX7_pullsOf_104 ?_
      refine J_get dX7_pullsOf_105 fl_X7_46 (hAt_ne (hAt_ne (hAt_ne h0 (by omega)) (by omega)) (by omega)) rfl ?_
      refine J_iload_5 dX7_pullsOf_108 ?_
      refine J_iconst (v := nI 1) dX7_pullsOf_110 (by decide) ?_
      refine J_iload_3 dX7_pullsOf_111 ?_
      refine J_ishl dX7_pullsOf_112 ?_
      refine J_topi (b := nI (2 ^ i)) (shl1 i (by omega)) ?_
      refine J_iast dX7_pullsOf_113 (hAt_ne (hAt_ne (hAt_ne q4 (by omega)) (by omega)) (by omega)) rfl (by omega) (by omega) ?_
      refine J_aload_0 dX7_pullsOf_114 ?_
      refine J_get dX7_pullsOf_115 fl_X7_34 (hAt_ne (hAt_ne (hAt_ne (hAt_ne h0 (by omega)) (by omega)) (by omega)) (by omega)) rfl ?_
      refine J_iload_1 dX7_pullsOf_118 ?_
      refine J_dup2 dX7_pullsOf_119 rfl rfl ?_
      refine J_iald dX7_pullsOf_120 (hAt_ne (hAt_ne (hAt_ne (hAt_ne q0 (by omega)) (by omega)) (by omega)) (by omega)) rfl (by omega) (by omega) ?_
      refine J_topi (b := nI (m l)) (rfl) ?_
      refine J_iconst (v := nI 1) dX7_pullsOf_121 (by decide) ?_
      first | refine J_iaddN dX7_pullsOf_122 ?_ | refine J_iadd dX7_pullsOf_122 ?_
      refine J_iast dX7_pullsOf_123 (hAt_ne (hAt_ne (hAt_ne (hAt_ne q0 (by omega)) (by omega)) (by omega)) (by omega)) rfl (by omega) (by omega) ?_
      exact go _ _ _ Q3 (((((offB.rf.hu (by omega) (by omega)).hu (by omega) (by omega)).hu (by omega) (by omega)).hu (by omega) (by omega)).hu (by omega) (by omega))
theorem m_pullsOf (p : mdAt h D tb F) (q : mps h m V) {l w : Nat} (hl : l < 2) {v : Int32} (hv : ∀ e, e < 8 → (nI e = v ↔ e = w)) : Ct X mX7_pullsOf 2 [.ref 51, .int (nI l), .int v] h (fun r h' => r = none ∧ mdAt h' D tb F ∧ mpQ D l w m V h' ∧ offB h h' 60 65) := by
  have h0 := p.1
  obtain ⟨q0, -⟩ := id q
  have Q1 := mps_m q (l := l) (x := 0)
  have O1 : offB h (hu h 60 (oA 0 2 (upd (fun j => nI (m j)) l (nI 0)))) 60 65 := offB.rf.hu (by omega) (by omega)
  have el : (if l = l then 0 else m l) = 0 := if_pos rfl
  refine Ct_of jmX7_pullsOf [some (.ref 51), some (.int (nI l)), some (.int v), none, none, none] (Nat.le_of_ble_eq_true rfl) rfl ?_
  show J X RX7 cX7_pullsOf 6 _ none _ 0 _ _ _
  refine J_aload_0 dX7_pullsOf_0 ?_
  refine J_get dX7_pullsOf_1 fl_X7_34 h0 rfl ?_
  refine J_iload_1 dX7_pullsOf_4 ?_
  refine J_iconst (v := nI 0) dX7_pullsOf_5 (by decide) ?_
  refine J_iast dX7_pullsOf_6 q0 rfl (by omega) (by omega) ?_
  refine J_iconst (v := nI 0) dX7_pullsOf_7 (by decide) ?_
  refine J_istore_3 dX7_pullsOf_8 (Nat.le_of_ble_eq_true rfl) rfl ?_
  exact l_mpullG p hl hv (dn D l) 0 _ _ _ _ _ (by omega) (by rw [el]; omega) (md_ps p O1 Q1) Q1 O1 (fun j hj => by rw [el] at hj; omega) (fun e he => by omega) (fun j hj => if_neg hj) (fun j _ => rfl)
theorem m_many (p : mdAt h D tb F) (q : mps h m V) {l : Nat} (hl : l < 2) : Ct X mX7_manyPulls 3 [.ref 51, .int (nI l)] h (fun r h' => r = some (.int (nI (plN D l 8))) ∧ mdAt h' D tb F ∧ mpQ D l 8 m V h' ∧ offB h h' 60 65) := by
  have h0 := p.1
  refine Ct_of jmX7_manyPulls [some (.ref 51), some (.int (nI l))] (Nat.le_of_ble_eq_true rfl) rfl ?_
  show J X RX7 cX7_manyPulls 2 _ (some .int) _ 0 _ _ _
  refine J_aload_0 dX7_manyPulls_0 ?_
  refine J_iload_1 dX7_manyPulls_1 ?_
  refine J_iconst (v := -1) dX7_manyPulls_2 (by decide) ?_
  refine J_cV2 dX7_manyPulls_3 jmX7_pullsOf mv_X7_169 h0 rfl (Nat.le_of_ble_eq_true rfl) (by decide) (m_pullsOf p q hl wN8) (fun r h' q => ?_)
  obtain ⟨rfl, p2, ⟨m', V', Q2, ⟨e1, e2⟩, e3⟩, o2⟩ := q
  refine J_aload_0 dX7_manyPulls_6 ?_
  refine J_get dX7_manyPulls_7 fl_X7_34 p2.1 rfl ?_
  refine J_iload_1 dX7_manyPulls_10 ?_
  refine J_iald dX7_manyPulls_11 Q2.1 rfl (by omega) (by omega) ?_
  refine J_topi (b := nI (plN D l 8)) (congrArg nI e1) ?_
  exact J_iret dX7_manyPulls_12 rfl (⟨rfl, p2, ⟨m', V', Q2, ⟨e1, e2⟩, e3⟩, o2⟩)
theorem m_pulls_bad {l : Int32} (hb : ¬ (0 ≤ l ∧ l < nI 2)) : CtI X mX7_pulls 4 [.ref 51, .int l] h (-2) := by
  refine Ct_of jmX7_pulls [some (.ref 51), some (.int l)] (Nat.le_of_ble_eq_true rfl) rfl ?_
  show J X RX7 cX7_pulls 2 _ (some .int) _ 0 _ _ _
  refine J_iload_1 dX7_pulls_0 ?_
  refine J_cS1i dX7_pulls_1 jmX7_isList ms_X7_82 (Nat.le_of_ble_eq_true rfl) (by decide) (m_listF hb) ?_
  refine J_if_eq (tgt := 15) dX7_pulls_4 (by decide) (fun _ => ?_) (fun c => absurd (by decide) c)
  refine J_bipush (v := -2) dX7_pulls_15 (by decide) ?_
  exact J_iret dX7_pulls_17 rfl (⟨rfl, rfl⟩)
theorem m_pulls_ok (p : mdAt h D tb F) {l : Nat} (hl : l < 2) : Ct X mX7_pulls 4 [.ref 51, .int (nI l)] h (fun r h' => r = some (.int (nI (plN D l 8))) ∧ moAt h' D ∧ offB h h' 51 71) := by
  have h0 := p.1
  obtain ⟨m, V, q⟩ := mps_of p
  refine Ct_of jmX7_pulls [some (.ref 51), some (.int (nI l))] (Nat.le_of_ble_eq_true rfl) rfl ?_
  show J X RX7 cX7_pulls 2 _ (some .int) _ 0 _ _ _
  refine J_iload_1 dX7_pulls_0 ?_
  refine J_cS1i dX7_pulls_1 jmX7_isList ms_X7_82 (Nat.le_of_ble_eq_true rfl) (by decide) (m_listT hl) ?_
  refine J_if_eq (tgt := 15) dX7_pulls_4 (by decide) (fun c => absurd c (by decide)) (fun _ => ?_)
  refine J_aload_0 dX7_pulls_7 ?_
  refine J_iload_1 dX7_pulls_8 ?_
  refine J_cV1 dX7_pulls_9 jmX7_manyPulls mv_X7_172 h0 rfl (Nat.le_of_ble_eq_true rfl) (by decide) (m_many p q hl) (fun r h' q => ?_)
  obtain ⟨rfl, p2, -, o2⟩ := q
  refine J_goto (tgt := 17) dX7_pulls_12 (by decide) ?_
  exact J_iret dX7_pulls_17 rfl (⟨rfl, ⟨_, _, p2⟩, o2.wide (by omega) (by omega)⟩)
end
