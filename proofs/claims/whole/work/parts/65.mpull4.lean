theorem frk_eq4 {g g' : Nat → Nat → Nat} : ∀ (k i : Nat), (∀ j, j < i + k → eq4 (g j) (g' j)) → frk g i k = frk g' i k := by
  intro k
  induction k with
  | zero => intro i _; rfl
  | succ k ih =>
    intro i h
    obtain ⟨e0, e1, e2, e3⟩ := h i (by omega)
    rw [frk, frk, ih (i + 1) (fun j hj => h j (by omega)), e1, e2]
theorem lkN_eq4 {D : DS} {v w : Nat → Nat} (h : eq4 v w) : lkN D v = lkN D w := by
  obtain ⟨e0, e1, e2, e3⟩ := h
  unfold lkN
  rw [e0, e1, e2]
theorem spP_eq4 {v w : Nat → Nat} (h : eq4 v w) (p : spP w) : spP v := by
  obtain ⟨e0, e1, e2, e3⟩ := h
  unfold spP
  rw [e0, e1, e2, e3]
  exact p
theorem dSH_dSH {D : DS} {s : Nat} {q1 q2 : Bool × Nat × Nat × (Nat → Int32)} : dSH (dSH D s q1) s q2 = dSH D s q2 := by
  unfold dSH
  dsimp only
  congr 5
  funext j
  split <;> rfl
theorem dsh_dSH {D : DS} {s : Nat} {q : Bool × Nat × Nat × (Nat → Int32)} : dsh (dSH D s q) s = q := if_pos rfl
theorem dSH_self {D : DS} {s : Nat} : dSH D s (dsh D s) = D := by
  have e : (fun j => if j = s then dsh D s else D.2.2.2.2.1 j) = D.2.2.2.2.1 := by
    funext j
    split
    · rename_i z; rw [z]; rfl
    · rfl
  unfold dSH
  rw [e]
section
variable {X : Cx} {h : HF} {D : DS} {tb : Int32} {F : Nat → Nat → Int32} {m : Nat → Nat} {V : Nat → Nat → Nat}
theorem mpl_P (hd : dok D) {l w : Nat} (hl : l < 2) (q : mpl D l w m V) : m l ≤ 8 ∧ ∀ j, j < m l → spP (V (8 * l + j)) := by
  obtain ⟨hN, hP⟩ := pl_P hd (w := w) hl
  rw [q.1]
  exact ⟨hN, fun j hj => spP_eq4 (q.2 j hj) (hP j hj)⟩
theorem m_lacking (p : mdAt h D tb F) (q : mps h m V) {a : Nat} (ha : a < 16) (pa : spP (V a)) : CtI X mX7_lacking 1 [.ref 51, .int (nI a)] h (nI (lkN D (V a))) := by
  obtain ⟨h0, -, -, -, -, ⟨fl, hfl, hfl0⟩, -⟩ := id p
  obtain ⟨-, h1, h2, h3, h4⟩ := id q
  obtain ⟨a0, a1, a2, a3⟩ := pa
  have hlen := p.2.2.2.2.2.2.2.2.2.2.2.1 (V a 0) a0
  refine Ct_of jmX7_lacking [some (.ref 51), some (.int (nI a))] (Nat.le_of_ble_eq_true rfl) rfl ?_
  show J X RX7 cX7_lacking 2 _ (some .int) _ 0 _ _ _
  refine J_iconst (v := nI 0) dX7_lacking_0 (by decide) ?_
  refine J_aload_0 dX7_lacking_1 ?_
  refine J_get dX7_lacking_2 fl_X7_43 h0 rfl ?_
  refine J_iload_1 dX7_lacking_5 ?_
  refine J_iald dX7_lacking_6 h3 rfl ha (by omega) ?_
  refine J_aload_0 dX7_lacking_7 ?_
  refine J_get dX7_lacking_8 fl_X7_40 h0 rfl ?_
  refine J_iload_1 dX7_lacking_11 ?_
  refine J_iald dX7_lacking_12 h2 rfl ha (by omega) ?_
  refine J_aload_0 dX7_lacking_13 ?_
  refine J_get dX7_lacking_14 fl_X7_31 h0 rfl ?_
  refine J_aload_0 dX7_lacking_17 ?_
  refine J_get dX7_lacking_18 fl_X7_37 h0 rfl ?_
  refine J_iload_1 dX7_lacking_21 ?_
  refine J_iald dX7_lacking_22 h1 rfl ha (by omega) ?_
  refine J_iald dX7_lacking_23 hfl rfl a0 (by omega) ?_
  refine J_topi (b := nI (dl D (V a 0))) (hfl0 _ a0) ?_
  refine J_cS2i dX7_lacking_24 jmX7_max ms_X7_152 (Nat.le_of_ble_eq_true rfl) (by decide) (m_max) ?_
  refine J_topi (b := nI (max (V a 1) (dl D (V a 0)))) (maxN (by omega) (by omega)) ?_
  refine J_isub dX7_lacking_27 ?_
  refine J_iconst (v := nI 1) dX7_lacking_28 (by decide) ?_
  refine J_iadd dX7_lacking_29 ?_
  refine J_cS2i dX7_lacking_30 jmX7_max ms_X7_152 (Nat.le_of_ble_eq_true rfl) (by decide) (m_max) ?_
  refine J_topi (b := nI (V a 2 + 1 - max (V a 1) (dl D (V a 0)))) (lackI (by omega) (by omega)) ?_
  exact J_iret dX7_lacking_33 rfl (⟨rfl, rfl⟩)
theorem l_mframes (h0 : hAt h 51 (moB tb (dfi D))) (q : mps h m V) {l : Nat} (hl : l < 2) (h8 : m l ≤ 8) (hP : ∀ j, j < m l → spP (V (8 * l + j))) : ∀ (k i s : Nat), i + k = m l → J X RX7 cX7_framesNow 4 0 (some .int) (fun r h' => r = some (.int (nI (s + frk (fun t => V (8 * l + t)) i k))) ∧ h' = h) 4 [some (.ref 51), some (.int (nI l)), some (.int (nI s)), some (.int (nI i))] [] h := by
  obtain ⟨q0, h1, h2, h3, h4⟩ := id q
  intro k
  induction k with
  | zero =>
    intro i s hi
    refine J_iload_3 dX7_framesNow_4 ?_
    refine J_aload_0 dX7_framesNow_5 ?_
    refine J_get dX7_framesNow_6 fl_X7_34 h0 rfl ?_
    refine J_iload_1 dX7_framesNow_9 ?_
    refine J_iald dX7_framesNow_10 q0 rfl (by omega) (by omega) ?_
    refine J_icmp_geN (tgt := 48) dX7_framesNow_11 (by decide) (by omega) (by omega) (fun _ => ?_) (fun c => absurd c (by omega))
    refine J_iload_2 dX7_framesNow_48 ?_
    exact J_iret dX7_framesNow_49 rfl (⟨rfl, rfl⟩)
  | succ k ih =>
    intro i s hi
    have hvi := (hP i (by omega)).2.1
    rw [show s + frk (fun t => V (8 * l + t)) i (k + 1) = s + (V (8 * l + i) 2 - V (8 * l + i) 1 + 1) + frk (fun t => V (8 * l + t)) (i + 1) k from by rw [frk]; omega]
    refine J_iload_3 dX7_framesNow_4 ?_
    refine J_aload_0 dX7_framesNow_5 ?_
    refine J_get dX7_framesNow_6 fl_X7_34 h0 rfl ?_
    refine J_iload_1 dX7_framesNow_9 ?_
    refine J_iald dX7_framesNow_10 q0 rfl (by omega) (by omega) ?_
    refine J_icmp_geN (tgt := 48) dX7_framesNow_11 (by decide) (by omega) (by omega) (fun c => absurd c (by omega)) (fun _ => ?_)
    refine J_iload_2 dX7_framesNow_14 ?_
    refine J_aload_0 dX7_framesNow_15 ?_
    refine J_get dX7_framesNow_16 fl_X7_43 h0 rfl ?_
    refine J_bipush (v := nI 8) dX7_framesNow_19 (by decide) ?_
    refine J_iload_1 dX7_framesNow_21 ?_
    first | refine J_imulN dX7_framesNow_22 ?_ | refine J_imul dX7_framesNow_22 ?_
    refine J_iload_3 dX7_framesNow_23 ?_
    first | refine J_iaddN dX7_framesNow_24 ?_ | refine J_iadd dX7_framesNow_24 ?_
    refine J_iald dX7_framesNow_25 h3 rfl (by omega) (by omega) ?_
    refine J_aload_0 dX7_framesNow_26 ?_
    refine J_get dX7_framesNow_27 fl_X7_40 h0 rfl ?_
    refine J_bipush (v := nI 8) dX7_framesNow_30 (by decide) ?_
    refine J_iload_1 dX7_framesNow_32 ?_
    first | refine J_imulN dX7_framesNow_33 ?_ | refine J_imul dX7_framesNow_33 ?_
    refine J_iload_3 dX7_framesNow_34 ?_
    first | refine J_iaddN dX7_framesNow_35 ?_ | refine J_iadd dX7_framesNow_35 ?_
    refine J_iald dX7_framesNow_36 h2 rfl (by omega) (by omega) ?_
    first | refine J_isubN dX7_framesNow_37 (by omega) ?_ | refine J_isub dX7_framesNow_37 ?_
    refine J_iconst (v := nI 1) dX7_framesNow_38 (by decide) ?_
    first | refine J_iaddN dX7_framesNow_39 ?_ | refine J_iadd dX7_framesNow_39 ?_
    first | refine J_iaddN dX7_framesNow_40 ?_ | refine J_iadd dX7_framesNow_40 ?_
    refine J_istore_2 dX7_framesNow_41 (Nat.le_of_ble_eq_true rfl) rfl ?_
    first | refine J_inc_3 dX7_framesNow_42 (Nat.le_of_ble_eq_true rfl) rfl ?_ | refine J_iinc_3 dX7_framesNow_42 rfl (Nat.le_of_ble_eq_true rfl) rfl ?_
    refine J_goto (tgt := 4) dX7_framesNow_45 (by decide) ?_
    exact ih (i + 1) _ (by omega)
theorem m_framesNow (p : mdAt h D tb F) (q : mps h m V) {l w : Nat} (hl : l < 2) (ql : mpl D l w m V) : CtI X mX7_framesNow 0 [.ref 51, .int (nI l)] h (nI (frk (plG D l w) 0 (plN D l w))) := by
  have hd : dok D := p.2.2.2.2.2.2.2.2
  obtain ⟨h8, hP⟩ := mpl_P hd hl ql
  have e := l_mframes (X := X) (D := D) (tb := tb) p.1 q hl h8 hP (m l) 0 0 (by omega)
  rw [Nat.zero_add, frk_eq4 (g' := plG D l w) (m l) 0 (fun j hj => ql.2 j (by rw [← ql.1]; omega)), ql.1] at e
  refine Ct_of jmX7_framesNow [some (.ref 51), some (.int (nI l)), none, none] (Nat.le_of_ble_eq_true rfl) rfl ?_
  show J X RX7 cX7_framesNow 4 _ (some .int) _ 0 _ _ _
  refine J_iconst (v := nI 0) dX7_framesNow_0 (by decide) ?_
  refine J_istore_2 dX7_framesNow_1 (Nat.le_of_ble_eq_true rfl) rfl ?_
  refine J_iconst (v := nI 0) dX7_framesNow_2 (by decide) ?_
  refine J_istore_3 dX7_framesNow_3 (Nat.le_of_ble_eq_true rfl) rfl ?_
  exact e
theorem m_pullFor (p : mdAt h D tb F) (q : mps h m V) {l i w : Nat} (hl : l < 2) (hi : i < 8) (hw : w < 5) : Ct X mX7_pullFor 4 [.ref 51, .int (nI l), .int (nI i), .int (nI w)] h (fun r h' => r = some (.int (sPull D l i w)) ∧ mdAt h' D tb F ∧ (∃ m' V', mps h' m' V') ∧ offB h h' 60 65) := by
  have h0 := p.1
  have hd : dok D := p.2.2.2.2.2.2.2.2
  obtain ⟨hN, hP⟩ := pl_P hd (w := 8) hl
  have fin : ∀ h2, mdAt h2 D tb F → ∀ m' V', mps h2 m' V' → mpl D l 8 m' V' → offB h h2 60 65 → J X RX7 cX7_pullFor 6 4 (some .int) (fun r h' => r = some (.int (sPull D l i w)) ∧ mdAt h' D tb F ∧ (∃ m' V', mps h' m' V') ∧ offB h h' 60 65) 5 [some (.ref 51), some (.int (nI l)), some (.int (nI i)), some (.int (nI w)), none, none] [.int (nI (plN D l 8))] h2 := by
    intro h2 p2 m' V' Q2 ql o2
    obtain ⟨-, r1, r2, r3, r4⟩ := id Q2
    have k0 := p2.1
    by_cases c : i < plN D l 8
    · obtain ⟨e0, e1, e2, e3⟩ := ql.2 i c
      have pS := (mpl_P hd hl ql).2 i (by rw [ql.1]; exact c)
      have eL := m_lacking (X := X) p2 Q2 (a := 8 * l + i) (by omega) pS
      rw [lkN_eq4 (ql.2 i c)] at eL
      have es : sPull D l i w = if w < 4 then nI (plG D l 8 i w) else nI (lkN D (plG D l 8 i)) := if_pos c
      rw [es]
      rcases (show w = 0 ∨ w = 1 ∨ w = 2 ∨ w = 3 ∨ w = 4 by omega) with rfl | rfl | rfl | rfl | rfl
      · refine J_istore_4 dX7_pullFor_5 (Nat.le_of_ble_eq_true rfl) rfl ?_
        refine J_bipush (v := nI 8) dX7_pullFor_7 (by decide) ?_
        refine J_iload_1 dX7_pullFor_9 ?_
        first | refine J_imulN dX7_pullFor_10 ?_ | refine J_imul dX7_pullFor_10 ?_
        refine J_iload_2 dX7_pullFor_11 ?_
        first | refine J_iaddN dX7_pullFor_12 ?_ | refine J_iadd dX7_pullFor_12 ?_
        refine J_istore_5 dX7_pullFor_13 (Nat.le_of_ble_eq_true rfl) rfl ?_
        refine J_iload_2 dX7_pullFor_15 ?_
        refine J_iload_4 dX7_pullFor_16 ?_
        refine J_icmp_ltN (tgt := 23) dX7_pullFor_18 (by decide) (by omega) (by omega) (fun _ => ?_) (fun c => absurd c (by omega))
        refine J_iload_3 dX7_pullFor_23 ?_
        refine J_tabN (tgt := 56) dX7_pullFor_24 (by decide) (by decide) rfl (by decide) ?_
        refine J_aload_0 dX7_pullFor_56 ?_
        refine J_get dX7_pullFor_57 fl_X7_37 k0 rfl ?_
        refine J_iload_5 dX7_pullFor_60 ?_
        refine J_iald dX7_pullFor_62 r1 rfl (by omega) (by omega) ?_
        refine J_topi (b := nI (plG D l 8 i 0)) (congrArg nI e0) ?_
        exact J_iret dX7_pullFor_63 rfl (⟨rfl, p2, ⟨m', V', Q2⟩, o2⟩)
      · refine J_istore_4 dX7_pullFor_5 (Nat.le_of_ble_eq_true rfl) rfl ?_
        refine J_bipush (v := nI 8) dX7_pullFor_7 (by decide) ?_
        refine J_iload_1 dX7_pullFor_9 ?_
        first | refine J_imulN dX7_pullFor_10 ?_ | refine J_imul dX7_pullFor_10 ?_
        refine J_iload_2 dX7_pullFor_11 ?_
        first | refine J_iaddN dX7_pullFor_12 ?_ | refine J_iadd dX7_pullFor_12 ?_
        refine J_istore_5 dX7_pullFor_13 (Nat.le_of_ble_eq_true rfl) rfl ?_
        refine J_iload_2 dX7_pullFor_15 ?_
        refine J_iload_4 dX7_pullFor_16 ?_
        refine J_icmp_ltN (tgt := 23) dX7_pullFor_18 (by decide) (by omega) (by omega) (fun _ => ?_) (fun c => absurd c (by omega))
        refine J_iload_3 dX7_pullFor_23 ?_
        refine J_tabN (tgt := 64) dX7_pullFor_24 (by decide) (by decide) rfl (by decide) ?_
        refine J_aload_0 dX7_pullFor_64 ?_
        refine J_get dX7_pullFor_65 fl_X7_40 k0 rfl ?_
        refine J_iload_5 dX7_pullFor_68 ?_
        refine J_iald dX7_pullFor_70 r2 rfl (by omega) (by omega) ?_
        refine J_topi (b := nI (plG D l 8 i 1)) (congrArg nI e1) ?_
        exact J_iret dX7_pullFor_71 rfl (⟨rfl, p2, ⟨m', V', Q2⟩, o2⟩)
      · refine J_istore_4 dX7_pullFor_5 (Nat.le_of_ble_eq_true rfl) rfl ?_
        refine J_bipush (v := nI 8) dX7_pullFor_7 (by decide) ?_
        refine J_iload_1 dX7_pullFor_9 ?_
        first | refine J_imulN dX7_pullFor_10 ?_ | refine J_imul dX7_pullFor_10 ?_
        refine J_iload_2 dX7_pullFor_11 ?_
        first | refine J_iaddN dX7_pullFor_12 ?_ | refine J_iadd dX7_pullFor_12 ?_
        refine J_istore_5 dX7_pullFor_13 (Nat.le_of_ble_eq_true rfl) rfl ?_
        refine J_iload_2 dX7_pullFor_15 ?_
        refine J_iload_4 dX7_pullFor_16 ?_
        refine J_icmp_ltN (tgt := 23) dX7_pullFor_18 (by decide) (by omega) (by omega) (fun _ => ?_) (fun c => absurd c (by omega))
        refine J_iload_3 dX7_pullFor_23 ?_
        refine J_tabN (tgt := 72) dX7_pullFor_24 (by decide) (by decide) rfl (by decide) ?_
        refine J_aload_0 dX7_pullFor_72 ?_
        refine J_get dX7_pullFor_73 fl_X7_43 k0 rfl ?_
        refine J_iload_5 dX7_pullFor_76 ?_
        refine J_iald dX7_pullFor_78 r3 rfl (by omega) (by omega) ?_
        refine J_topi (b := nI (plG D l 8 i 2)) (congrArg nI e2) ?_
        exact J_iret dX7_pullFor_79 rfl (⟨rfl, p2, ⟨m', V', Q2⟩, o2⟩)
      · refine J_istore_4 dX7_pullFor_5 (Nat.le_of_ble_eq_true rfl) rfl ?_
        refine J_bipush (v := nI 8) dX7_pullFor_7 (by decide) ?_
        refine J_iload_1 dX7_pullFor_9 ?_
        first | refine J_imulN dX7_pullFor_10 ?_ | refine J_imul dX7_pullFor_10 ?_
        refine J_iload_2 dX7_pullFor_11 ?_
        first | refine J_iaddN dX7_pullFor_12 ?_ | refine J_iadd dX7_pullFor_12 ?_
        refine J_istore_5 dX7_pullFor_13 (Nat.le_of_ble_eq_true rfl) rfl ?_
        refine J_iload_2 dX7_pullFor_15 ?_
        refine J_iload_4 dX7_pullFor_16 ?_
        refine J_icmp_ltN (tgt := 23) dX7_pullFor_18 (by decide) (by omega) (by omega) (fun _ => ?_) (fun c => absurd c (by omega))
        refine J_iload_3 dX7_pullFor_23 ?_
        refine J_tabN (tgt := 80) dX7_pullFor_24 (by decide) (by decide) rfl (by decide) ?_
        refine J_aload_0 dX7_pullFor_80 ?_
        refine J_get dX7_pullFor_81 fl_X7_46 k0 rfl ?_
        refine J_iload_5 dX7_pullFor_84 ?_
        refine J_iald dX7_pullFor_86 r4 rfl (by omega) (by omega) ?_
        refine J_topi (b := nI (plG D l 8 i 3)) (congrArg nI e3) ?_
        exact J_iret dX7_pullFor_87 rfl (⟨rfl, p2, ⟨m', V', Q2⟩, o2⟩)
      · refine J_istore_4 dX7_pullFor_5 (Nat.le_of_ble_eq_true rfl) rfl ?_
        refine J_bipush (v := nI 8) dX7_pullFor_7 (by decide) ?_
        refine J_iload_1 dX7_pullFor_9 ?_
        first | refine J_imulN dX7_pullFor_10 ?_ | refine J_imul dX7_pullFor_10 ?_
        refine J_iload_2 dX7_pullFor_11 ?_
        first | refine J_iaddN dX7_pullFor_12 ?_ | refine J_iadd dX7_pullFor_12 ?_
        refine J_istore_5 dX7_pullFor_13 (Nat.le_of_ble_eq_true rfl) rfl ?_
        refine J_iload_2 dX7_pullFor_15 ?_
        refine J_iload_4 dX7_pullFor_16 ?_
        refine J_icmp_ltN (tgt := 23) dX7_pullFor_18 (by decide) (by omega) (by omega) (fun _ => ?_) (fun c => absurd c (by omega))
        refine J_iload_3 dX7_pullFor_23 ?_
        refine J_tabNo (tgt := 88) dX7_pullFor_24 (by decide) (by decide) (by decide) ?_
        refine J_aload_0 dX7_pullFor_88 ?_
        refine J_iload_5 dX7_pullFor_89 ?_
        refine J_cV1i dX7_pullFor_91 jmX7_lacking mv_X7_175 k0 rfl (Nat.le_of_ble_eq_true rfl) (by decide) (eL) ?_
        exact J_iret dX7_pullFor_94 rfl (⟨rfl, p2, ⟨m', V', Q2⟩, o2⟩)
    · rw [show sPull D l i w = -1 from if_neg c]
      refine J_istore_4 dX7_pullFor_5 (Nat.le_of_ble_eq_true rfl) rfl ?_
      refine J_bipush (v := nI 8) dX7_pullFor_7 (by decide) ?_
      refine J_iload_1 dX7_pullFor_9 ?_
      first | refine J_imulN dX7_pullFor_10 ?_ | refine J_imul dX7_pullFor_10 ?_
      refine J_iload_2 dX7_pullFor_11 ?_
      first | refine J_iaddN dX7_pullFor_12 ?_ | refine J_iadd dX7_pullFor_12 ?_
      refine J_istore_5 dX7_pullFor_13 (Nat.le_of_ble_eq_true rfl) rfl ?_
      refine J_iload_2 dX7_pullFor_15 ?_
      refine J_iload_4 dX7_pullFor_16 ?_
      refine J_icmp_ltN (tgt := 23) dX7_pullFor_18 (by decide) (by omega) (by omega) (fun c => absurd c (by omega)) (fun _ => ?_)
      refine J_iconst (v := -1) dX7_pullFor_21 (by decide) ?_
      exact J_iret dX7_pullFor_22 rfl (⟨rfl, p2, ⟨m', V', Q2⟩, o2⟩)
  refine Ct_of jmX7_pullFor [some (.ref 51), some (.int (nI l)), some (.int (nI i)), some (.int (nI w)), none, none] (Nat.le_of_ble_eq_true rfl) rfl ?_
  show J X RX7 cX7_pullFor 6 _ (some .int) _ 0 _ _ _
  refine J_aload_0 dX7_pullFor_0 ?_
  refine J_iload_1 dX7_pullFor_1 ?_
  refine J_cV1 dX7_pullFor_2 jmX7_manyPulls mv_X7_172 h0 rfl (Nat.le_of_ble_eq_true rfl) (by decide) (m_many p q hl) (fun r h' q => ?_)
  obtain ⟨rfl, p2, ⟨m', V', Q2, ql, -⟩, o2⟩ := q
  exact fin _ p2 m' V' Q2 ql o2
theorem m_pull_bad {l i w : Int32} (hb : ¬ ((∃ j, j < 2 ∧ l = nI j) ∧ (∃ k, k < 8 ∧ i = nI k) ∧ ∃ u, u < 5 ∧ w = nI u)) : CtI X mX7_pull 5 [.ref 51, .int l, .int i, .int w] h (-2) := by
  refine Ct_of jmX7_pull [some (.ref 51), some (.int l), some (.int i), some (.int w)] (Nat.le_of_ble_eq_true rfl) rfl ?_
  show J X RX7 cX7_pull 4 _ (some .int) _ 0 _ _ _
  rcases ix_cases l 2 (by decide) with ⟨j, hj, rfl⟩ | hl
  · rcases ix_cases i 8 (by decide) with ⟨k, hk, rfl⟩ | hf
    · rcases ix_cases w 5 (by decide) with ⟨u, hu, rfl⟩ | hw
      · exact absurd ⟨⟨j, hj, rfl⟩, ⟨k, hk, rfl⟩, u, hu, rfl⟩ hb
      · refine J_iload_1 dX7_pull_0 ?_
        refine J_cS1i dX7_pull_1 jmX7_isList ms_X7_82 (Nat.le_of_ble_eq_true rfl) (by decide) (m_listT hj) ?_
        refine J_if_eq (tgt := 36) dX7_pull_4 (by decide) (fun c => absurd c (by decide)) (fun _ => ?_)
        refine J_iload_2 dX7_pull_7 ?_
        refine J_iconst (v := nI 0) dX7_pull_8 (by decide) ?_
        refine J_bipush (v := nI 7) dX7_pull_9 (by decide) ?_
        refine J_cS3i dX7_pull_11 jmX7_in ms_X7_69 (Nat.le_of_ble_eq_true rfl) (by decide) (m_inT (by omega) (by omega) (by decide)) ?_
        refine J_if_eq (tgt := 36) dX7_pull_14 (by decide) (fun c => absurd c (by decide)) (fun _ => ?_)
        refine J_iload_3 dX7_pull_17 ?_
        refine J_iconst (v := nI 0) dX7_pull_18 (by decide) ?_
        refine J_iconst (v := nI 4) dX7_pull_19 (by decide) ?_
        refine J_cS3i dX7_pull_20 jmX7_in ms_X7_69 (Nat.le_of_ble_eq_true rfl) (by decide) (m_inB (n := 4) (by decide) hw) ?_
        refine J_if_eq (tgt := 36) dX7_pull_23 (by decide) (fun _ => ?_) (fun c => absurd (by decide) c)
        refine J_bipush (v := -2) dX7_pull_36 (by decide) ?_
        exact J_iret dX7_pull_38 rfl (⟨rfl, rfl⟩)
    · refine J_iload_1 dX7_pull_0 ?_
      refine J_cS1i dX7_pull_1 jmX7_isList ms_X7_82 (Nat.le_of_ble_eq_true rfl) (by decide) (m_listT hj) ?_
      refine J_if_eq (tgt := 36) dX7_pull_4 (by decide) (fun c => absurd c (by decide)) (fun _ => ?_)
      refine J_iload_2 dX7_pull_7 ?_
      refine J_iconst (v := nI 0) dX7_pull_8 (by decide) ?_
      refine J_bipush (v := nI 7) dX7_pull_9 (by decide) ?_
      refine J_cS3i dX7_pull_11 jmX7_in ms_X7_69 (Nat.le_of_ble_eq_true rfl) (by decide) (m_inB (n := 7) (by decide) hf) ?_
      refine J_if_eq (tgt := 36) dX7_pull_14 (by decide) (fun _ => ?_) (fun c => absurd (by decide) c)
      refine J_bipush (v := -2) dX7_pull_36 (by decide) ?_
      exact J_iret dX7_pull_38 rfl (⟨rfl, rfl⟩)
  · refine J_iload_1 dX7_pull_0 ?_
    refine J_cS1i dX7_pull_1 jmX7_isList ms_X7_82 (Nat.le_of_ble_eq_true rfl) (by decide) (m_listF hl) ?_
    refine J_if_eq (tgt := 36) dX7_pull_4 (by decide) (fun _ => ?_) (fun c => absurd (by decide) c)
    refine J_bipush (v := -2) dX7_pull_36 (by decide) ?_
    exact J_iret dX7_pull_38 rfl (⟨rfl, rfl⟩)
theorem m_pull_ok (p : mdAt h D tb F) {l i w : Nat} (hl : l < 2) (hi : i < 8) (hw : w < 5) : Ct X mX7_pull 5 [.ref 51, .int (nI l), .int (nI i), .int (nI w)] h (fun r h' => r = some (.int (sPull D l i w)) ∧ moAt h' D ∧ offB h h' 51 71) := by
  have h0 := p.1
  obtain ⟨m, V, q⟩ := mps_of p
  refine Ct_of jmX7_pull [some (.ref 51), some (.int (nI l)), some (.int (nI i)), some (.int (nI w))] (Nat.le_of_ble_eq_true rfl) rfl ?_
  show J X RX7 cX7_pull 4 _ (some .int) _ 0 _ _ _
  refine J_iload_1 dX7_pull_0 ?_
  refine J_cS1i dX7_pull_1 jmX7_isList ms_X7_82 (Nat.le_of_ble_eq_true rfl) (by decide) (m_listT hl) ?_
  refine J_if_eq (tgt := 36) dX7_pull_4 (by decide) (fun c => absurd c (by decide)) (fun _ => ?_)
  refine J_iload_2 dX7_pull_7 ?_
  refine J_iconst (v := nI 0) dX7_pull_8 (by decide) ?_
  refine J_bipush (v := nI 7) dX7_pull_9 (by decide) ?_
  refine J_cS3i dX7_pull_11 jmX7_in ms_X7_69 (Nat.le_of_ble_eq_true rfl) (by decide) (m_inT (by omega) (by omega) (by decide)) ?_
  refine J_if_eq (tgt := 36) dX7_pull_14 (by decide) (fun c => absurd c (by decide)) (fun _ => ?_)
  refine J_iload_3 dX7_pull_17 ?_
  refine J_iconst (v := nI 0) dX7_pull_18 (by decide) ?_
  refine J_iconst (v := nI 4) dX7_pull_19 (by decide) ?_
  refine J_cS3i dX7_pull_20 jmX7_in ms_X7_69 (Nat.le_of_ble_eq_true rfl) (by decide) (m_inT (by omega) (by omega) (by decide)) ?_
  refine J_if_eq (tgt := 36) dX7_pull_23 (by decide) (fun c => absurd c (by decide)) (fun _ => ?_)
  refine J_aload_0 dX7_pull_26 ?_
  refine J_iload_1 dX7_pull_27 ?_
  refine J_iload_2 dX7_pull_28 ?_
  refine J_iload_3 dX7_pull_29 ?_
  refine J_cV3 dX7_pull_30 jmX7_pullFor mv_X7_178 h0 rfl (Nat.le_of_ble_eq_true rfl) (by decide) (m_pullFor p q hl hi hw) (fun r h' q => ?_)
  obtain ⟨rfl, p2, -, o2⟩ := q
  refine J_goto (tgt := 38) dX7_pull_33 (by decide) ?_
  exact J_iret dX7_pull_38 rfl (⟨rfl, ⟨_, _, p2⟩, o2.wide (by omega) (by omega)⟩)
theorem l_mtotal (p : mdAt h D tb F) (q : mps h m V) {l : Nat} (hl : l < 2) (ql : mpl D l 8 m V) {wv : Int32} {Q : Option Value → HF → Prop} (kk : J X RX7 cX7_totalOf 5 3 (some .int) Q 42 [some (.ref 51), some (.int (nI l)), some (.int wv), some (.int (nI (lkS D (plG D l 8) 0 (plN D l 8)))), some (.int (nI (plN D l 8)))] [] h) : ∀ (k i s : Nat), i + k = plN D l 8 → s + lkS D (plG D l 8) i k = lkS D (plG D l 8) 0 (plN D l 8) →
    J X RX7 cX7_totalOf 5 3 (some .int) Q 11 [some (.ref 51), some (.int (nI l)), some (.int wv), some (.int (nI s)), some (.int (nI i))] [] h := by
  have h0 := p.1
  have q0 := q.1
  have hd : dok D := p.2.2.2.2.2.2.2.2
  obtain ⟨h8, hP⟩ := mpl_P hd hl ql
  rw [ql.1] at h8 hP
  intro k
  induction k with
  | zero =>
    intro i s hi hs
    obtain rfl : i = plN D l 8 := by omega
    have hs : s = lkS D (plG D l 8) 0 (plN D l 8) := hs
    subst hs
    refine J_iload_4 dX7_totalOf_11 ?_
    refine J_aload_0 dX7_totalOf_13 ?_
    refine J_get dX7_totalOf_14 fl_X7_34 h0 rfl ?_
    refine J_iload_1 dX7_totalOf_17 ?_
    refine J_iald dX7_totalOf_18 q0 rfl (by omega) (by omega) ?_
    refine J_topi (b := nI (plN D l 8)) (congrArg nI ql.1) ?_
    refine J_icmp_geN (tgt := 42) dX7_totalOf_19 (by decide) (by omega) (by omega) (fun _ => ?_) (fun c => absurd c (by omega))
    exact kk
  | succ k ih =>
    intro i s hi hs
    have eL := m_lacking (X := X) p q (a := 8 * l + i) (by omega) (hP i (by omega))
    rw [lkN_eq4 (ql.2 i (by omega))] at eL
    rw [lkS] at hs
    refine J_iload_4 dX7_totalOf_11 ?_
    refine J_aload_0 dX7_totalOf_13 ?_
    refine J_get dX7_totalOf_14 fl_X7_34 h0 rfl ?_
    refine J_iload_1 dX7_totalOf_17 ?_
    refine J_iald dX7_totalOf_18 q0 rfl (by omega) (by omega) ?_
    refine J_topi (b := nI (plN D l 8)) (congrArg nI ql.1) ?_
    refine J_icmp_geN (tgt := 42) dX7_totalOf_19 (by decide) (by omega) (by omega) (fun c => absurd c (by omega)) (fun _ => ?_)
    refine J_iload_3 dX7_totalOf_22 ?_
    refine J_aload_0 dX7_totalOf_23 ?_
    refine J_bipush (v := nI 8) dX7_totalOf_24 (by decide) ?_
    refine J_iload_1 dX7_totalOf_26 ?_
    first | refine J_imulN dX7_totalOf_27 ?_ | refine J_imul dX7_totalOf_27 ?_
    refine J_iload_4 dX7_totalOf_28 ?_
    first | refine J_iaddN dX7_totalOf_30 ?_ | refine J_iadd dX7_totalOf_30 ?_
    refine J_cV1i dX7_totalOf_31 jmX7_lacking mv_X7_175 h0 rfl (Nat.le_of_ble_eq_true rfl) (by decide) (eL) ?_
    first | refine J_iaddN dX7_totalOf_34 ?_ | refine J_iadd dX7_totalOf_34 ?_
    refine J_istore_3 dX7_totalOf_35 (Nat.le_of_ble_eq_true rfl) rfl ?_
    first | refine J_inc_4 dX7_totalOf_36 (Nat.le_of_ble_eq_true rfl) rfl ?_ | refine J_iinc_4 dX7_totalOf_36 rfl (Nat.le_of_ble_eq_true rfl) rfl ?_
    refine J_goto (tgt := 11) dX7_totalOf_39 (by decide) ?_
    exact ih (i + 1) _ (by omega) (by omega)
theorem m_totalOf (p : mdAt h D tb F) (q : mps h m V) {l w : Nat} (hl : l < 2) (hw : w < 3) : Ct X mX7_totalOf 3 [.ref 51, .int (nI l), .int (nI w)] h (fun r h' => r = some (.int (sTotal D l w)) ∧ mdAt h' D tb F ∧ (∃ m' V', mps h' m' V') ∧ offB h h' 60 65) := by
  have h0 := p.1
  refine Ct_of jmX7_totalOf [some (.ref 51), some (.int (nI l)), some (.int (nI w)), none, none] (Nat.le_of_ble_eq_true rfl) rfl ?_
  show J X RX7 cX7_totalOf 5 _ (some .int) _ 0 _ _ _
  refine J_aload_0 dX7_totalOf_0 ?_
  refine J_iload_1 dX7_totalOf_1 ?_
  refine J_iconst (v := -1) dX7_totalOf_2 (by decide) ?_
  refine J_cV2 dX7_totalOf_3 jmX7_pullsOf mv_X7_169 h0 rfl (Nat.le_of_ble_eq_true rfl) (by decide) (m_pullsOf p q hl wN8) (fun r h' q => ?_)
  obtain ⟨rfl, p2, ⟨m', V', Q2, ql, -⟩, o2⟩ := q
  refine J_iconst (v := nI 0) dX7_totalOf_6 (by decide) ?_
  refine J_istore_3 dX7_totalOf_7 (Nat.le_of_ble_eq_true rfl) rfl ?_
  refine J_iconst (v := nI 0) dX7_totalOf_8 (by decide) ?_
  refine J_istore_4 dX7_totalOf_9 (Nat.le_of_ble_eq_true rfl) rfl ?_
  refine l_mtotal p2 Q2 hl ql ?_ (plN D l 8) 0 0 (by omega) (by omega)
  have k0 := p2.1
  obtain ⟨-, ⟨fm, hfm, hm0⟩, -⟩ := id p2
  refine J_iload_2 dX7_totalOf_42 ?_
  first | refine J_if_neB (tgt := 54) dX7_totalOf_43 (by decide) (fun c43 => ?_) (fun c43 => ?_) | refine J_if_neN (tgt := 54) dX7_totalOf_43 (by decide) (by omega) (fun c43 => ?_) (fun c43 => ?_) | refine J_if_ne (tgt := 54) dX7_totalOf_43 (by decide) (fun c43 => ?_) (fun c43 => ?_)
  · refine J_iload_2 dX7_totalOf_54 ?_
    refine J_iconst (v := nI 1) dX7_totalOf_55 (by decide) ?_
    first | refine J_icmp_neN (tgt := 73) dX7_totalOf_56 (by decide) (by omega) (by omega) (fun c56 => ?_) (fun c56 => ?_) | refine J_icmp_ne (tgt := 73) dX7_totalOf_56 (by decide) (fun c56 => ?_) (fun c56 => ?_)
    · refine J_iload_3 dX7_totalOf_73 ?_
      exact J_iret dX7_totalOf_74 rfl (⟨by unfold sTotal; first | rw [if_pos c43] | rw [if_neg (Nat.ne_of_gt c43), if_pos c56] | rw [if_neg (Nat.ne_of_gt c43), if_neg c56], p2, ⟨m', V', Q2⟩, o2⟩)
    · refine J_aload_0 dX7_totalOf_59 ?_
      refine J_iload_1 dX7_totalOf_60 ?_
      refine J_aload_0 dX7_totalOf_61 ?_
      refine J_get dX7_totalOf_62 fl_X7_7 k0 rfl ?_
      refine J_iload_1 dX7_totalOf_65 ?_
      refine J_iald dX7_totalOf_66 hfm rfl (by omega) (by omega) ?_
      refine J_topi (b := nI (dn D l)) (hm0 l hl) ?_
      refine J_cV2i dX7_totalOf_67 jmX7_beginOf mv_X7_111 k0 rfl (Nat.le_of_ble_eq_true rfl) (by decide) (m_begin p2 hl (Nat.le_refl _)) ?_
      refine J_goto (tgt := 74) dX7_totalOf_70 (by decide) ?_
      exact J_iret dX7_totalOf_74 rfl (⟨by unfold sTotal; first | rw [if_pos c43] | rw [if_neg (Nat.ne_of_gt c43), if_pos c56] | rw [if_neg (Nat.ne_of_gt c43), if_neg c56], p2, ⟨m', V', Q2⟩, o2⟩)
  · refine J_aload_0 dX7_totalOf_46 ?_
    refine J_iload_1 dX7_totalOf_47 ?_
    refine J_cV1i dX7_totalOf_48 jmX7_framesNow mv_X7_184 k0 rfl (Nat.le_of_ble_eq_true rfl) (by decide) (m_framesNow p2 Q2 hl ql) ?_
    refine J_goto (tgt := 74) dX7_totalOf_51 (by decide) ?_
    exact J_iret dX7_totalOf_74 rfl (⟨by unfold sTotal; first | rw [if_pos c43] | rw [if_neg (Nat.ne_of_gt c43), if_pos c56] | rw [if_neg (Nat.ne_of_gt c43), if_neg c56], p2, ⟨m', V', Q2⟩, o2⟩)
theorem m_total_bad {l w : Int32} (hb : ¬ ((∃ j, j < 2 ∧ l = nI j) ∧ ∃ u, u < 3 ∧ w = nI u)) : CtI X mX7_total 4 [.ref 51, .int l, .int w] h (-2) := by
  refine Ct_of jmX7_total [some (.ref 51), some (.int l), some (.int w)] (Nat.le_of_ble_eq_true rfl) rfl ?_
  show J X RX7 cX7_total 3 _ (some .int) _ 0 _ _ _
  rcases ix_cases l 2 (by decide) with ⟨j, hj, rfl⟩ | hl
  · rcases ix_cases w 3 (by decide) with ⟨u, hu, rfl⟩ | hw
    · exact absurd ⟨⟨j, hj, rfl⟩, u, hu, rfl⟩ hb
    · refine J_iload_1 dX7_total_0 ?_
      refine J_cS1i dX7_total_1 jmX7_isList ms_X7_82 (Nat.le_of_ble_eq_true rfl) (by decide) (m_listT hj) ?_
      refine J_if_eq (tgt := 25) dX7_total_4 (by decide) (fun c => absurd c (by decide)) (fun _ => ?_)
      refine J_iload_2 dX7_total_7 ?_
      refine J_iconst (v := nI 0) dX7_total_8 (by decide) ?_
      refine J_iconst (v := nI 2) dX7_total_9 (by decide) ?_
      refine J_cS3i dX7_total_10 jmX7_in ms_X7_69 (Nat.le_of_ble_eq_true rfl) (by decide) (m_inB (n := 2) (by decide) hw) ?_
      refine J_if_eq (tgt := 25) dX7_total_13 (by decide) (fun _ => ?_) (fun c => absurd (by decide) c)
      refine J_bipush (v := -2) dX7_total_25 (by decide) ?_
      exact J_iret dX7_total_27 rfl (⟨rfl, rfl⟩)
  · refine J_iload_1 dX7_total_0 ?_
    refine J_cS1i dX7_total_1 jmX7_isList ms_X7_82 (Nat.le_of_ble_eq_true rfl) (by decide) (m_listF hl) ?_
    refine J_if_eq (tgt := 25) dX7_total_4 (by decide) (fun _ => ?_) (fun c => absurd (by decide) c)
    refine J_bipush (v := -2) dX7_total_25 (by decide) ?_
    exact J_iret dX7_total_27 rfl (⟨rfl, rfl⟩)
theorem m_total_ok (p : mdAt h D tb F) {l w : Nat} (hl : l < 2) (hw : w < 3) : Ct X mX7_total 4 [.ref 51, .int (nI l), .int (nI w)] h (fun r h' => r = some (.int (sTotal D l w)) ∧ moAt h' D ∧ offB h h' 51 71) := by
  have h0 := p.1
  obtain ⟨m, V, q⟩ := mps_of p
  refine Ct_of jmX7_total [some (.ref 51), some (.int (nI l)), some (.int (nI w))] (Nat.le_of_ble_eq_true rfl) rfl ?_
  show J X RX7 cX7_total 3 _ (some .int) _ 0 _ _ _
  refine J_iload_1 dX7_total_0 ?_
  refine J_cS1i dX7_total_1 jmX7_isList ms_X7_82 (Nat.le_of_ble_eq_true rfl) (by decide) (m_listT hl) ?_
  refine J_if_eq (tgt := 25) dX7_total_4 (by decide) (fun c => absurd c (by decide)) (fun _ => ?_)
  refine J_iload_2 dX7_total_7 ?_
  refine J_iconst (v := nI 0) dX7_total_8 (by decide) ?_
  refine J_iconst (v := nI 2) dX7_total_9 (by decide) ?_
  refine J_cS3i dX7_total_10 jmX7_in ms_X7_69 (Nat.le_of_ble_eq_true rfl) (by decide) (m_inT (by omega) (by omega) (by decide)) ?_
  refine J_if_eq (tgt := 25) dX7_total_13 (by decide) (fun c => absurd c (by decide)) (fun _ => ?_)
  refine J_aload_0 dX7_total_16 ?_
  refine J_iload_1 dX7_total_17 ?_
  refine J_iload_2 dX7_total_18 ?_
  refine J_cV2 dX7_total_19 jmX7_totalOf mv_X7_193 h0 rfl (Nat.le_of_ble_eq_true rfl) (by decide) (m_totalOf p q hl hw) (fun r h' q => ?_)
  obtain ⟨rfl, p2, -, o2⟩ := q
  refine J_goto (tgt := 27) dX7_total_22 (by decide) ?_
  exact J_iret dX7_total_27 rfl (⟨rfl, ⟨_, _, p2⟩, o2.wide (by omega) (by omega)⟩)
end
