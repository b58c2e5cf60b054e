section
variable {X : Cx} {h : HF} {D : DS} {tb : Int32} {F : Nat → Nat → Int32} {m : Nat → Nat} {V : Nat → Nat → Nat}
/-- all spans are there, and none are near -/
def ga (D : DS) (l w n : Nat) (V : Nat → Nat → Nat) : Prop := gd D l w n (fun t => V (8 * l + t)) ∧ ∀ a b, a < n → b < n → a ≠ b → ¬ nearB (dst D 2) (V (8 * l + a)) (V (8 * l + b)) = true
theorem ga_swap {l w n i j : Nat} (h : ga D l w n V) (hi : i < n) (hj : j < n) : ga D l w n (eset (eset V (8 * l + i) (V (8 * l + j))) (8 * l + j) (V (8 * l + i))) := by
  have e : ∀ t, eset (eset V (8 * l + i) (V (8 * l + j))) (8 * l + j) (V (8 * l + i)) (8 * l + t) = V (8 * l + (if t = j then i else if t = i then j else t)) := by
    intro t
    by_cases z : t = j
    · rw [if_pos z, z, eset_s]
    · rw [if_neg z, eset_n (by omega)]
      by_cases y : t = i
      · rw [if_pos y, y, eset_s]
      · rw [if_neg y, eset_n (by omega)]
  have b : ∀ t, t < n → (if t = j then i else if t = i then j else t) < n := by
    intro t ht
    split
    · exact hi
    · split
      · exact hj
      · exact ht
  refine ⟨⟨fun t ht => ?_, fun f hf hw => ?_⟩, fun s t hs ht hst => ?_⟩
  · show sok D l w (eset _ _ _ _)
    rw [e t]
    exact h.1.1 _ (b t ht)
  · obtain ⟨s, hs, hb⟩ := h.1.2 f hf hw
    refine ⟨if s = j then i else if s = i then j else s, b s hs, ?_⟩
    show (eset _ _ _ _ 3).testBit f = true
    rw [e]
    have : (if (if s = j then i else if s = i then j else s) = j then i else if (if s = j then i else if s = i then j else s) = i then j else (if s = j then i else if s = i then j else s)) = s := by
      by_cases z : s = j
      · rw [if_pos z]
        by_cases y : i = j
        · rw [if_pos y]; omega
        · rw [if_neg y, if_pos rfl]; omega
      · rw [if_neg z]
        by_cases y : s = i
        · rw [if_pos y, if_pos rfl]; omega
        · rw [if_neg y, if_neg z, if_neg y]
    rw [this]
    exact hb
  · rw [e s, e t]
    refine h.2 _ _ (b s hs) (b t ht) ?_
    split <;> split <;> (try split) <;> (try split) <;> omega
theorem l_mordJ {h : HF} {l w i : Nat} (hl : l < 2) {V0 : Nat → Nat → Nat} (h8 : m l ≤ 8) (hi : i < m l) {Q : Option Value → HF → Prop} (kk : ∀ h1 (j : Nat) V1 o4 o5 o6 o7 o8 o9, lok o4 = true → lok o5 = true → lok o6 = true → lok o7 = true → lok o8 = true → mdAt h1 D tb F → mps h1 m V1 → offB h h1 60 65 → (∀ j, (j < 8 * l ∨ 8 * l + 8 ≤ j) → V1 j = V0 j) → ga D l w (m l) V1 → (∀ a b, a < i + 1 → a < b → b < m l → leq (V1 (8 * l + a)) (V1 (8 * l + b))) → J X RX7 cX7_orders 10 1 none Q 139 [some (.ref 51), some (.int (nI l)), some (.int (nI i)), some (.int (nI j)), o4, o5, o6, o7, o8, o9] [] h1) :
    ∀ (k j : Nat) (h1 : HF) (V1 : Nat → Nat → Nat) (o4 o5 o6 o7 o8 o9 : Option Value), j + k = m l → i < j → lok o4 = true → lok o5 = true → lok o6 = true → lok o7 = true → lok o8 = true → mdAt h1 D tb F → mps h1 m V1 → offB h h1 60 65 → (∀ j, (j < 8 * l ∨ 8 * l + 8 ≤ j) → V1 j = V0 j) → ga D l w (m l) V1 → (∀ a b, a < i → a < b → b < m l → leq (V1 (8 * l + a)) (V1 (8 * l + b))) → (∀ b, i < b → b < j → leq (V1 (8 * l + i)) (V1 (8 * l + b))) →
    J X RX7 cX7_orders 10 1 none Q 16 [some (.ref 51), some (.int (nI l)), some (.int (nI i)), some (.int (nI j)), o4, o5, o6, o7, o8, o9] [] h1 := by
  intro k
  induction k with
  | zero =>
    intro j h1 V1 o4 o5 o6 o7 o8 o9 hj hij l4 l5 l6 l7 l8 p q ho hV hg hs1 hs2
    have h0 := p.1
    have q0 := q.1
    refine J_iload_3 dX7_orders_16 ?_
    refine J_aload_0 dX7_orders_17 ?_
    refine J_get dX7_orders_18 fl_X7_34 h0 rfl ?_
    refine J_iload_1 dX7_orders_21 ?_
    refine J_iald dX7_orders_22 q0 rfl (by omega) (by omega) ?_
    refine J_icmp_geN (tgt := 139) dX7_orders_23 (by decide) (by omega) (by omega) (fun _ => ?_) (fun c => absurd c (by omega))
    exact kk h1 j V1 _ _ _ _ _ _ l4 l5 l6 l7 l8 p q ho hV hg (fun a b z1 z2 z3 => by by_cases z : a = i; (rw [z]; exact hs2 b (by omega) (by omega)); exact hs1 a b (by omega) z2 z3)
  | succ k ih =>
    intro j h1 V1 o4 o5 o6 o7 o8 o9 hj hij l4 l5 l6 l7 l8 p q ho hV hg hs1 hs2
    have h0 := p.1
    obtain ⟨q0, q1, q2, q3, q4⟩ := id q
    have pa := (hg.1.1 i hi).1
    have pb := (hg.1.1 j (by omega)).1
    have ha := m_isAhead (X := X) (D := D) (tb := tb) h0 q (a := 8 * l + j) (b := 8 * l + i) (by omega) (by omega) pb pa
    by_cases c : behB (V1 (8 * l + i)) (V1 (8 * l + j)) = true
    · rw [bI_t c] at ha
      have hlj := leq_of_beh c
      have go : ∀ h3, mps h3 m (eset (eset V1 (8 * l + i) (V1 (8 * l + j))) (8 * l + j) (V1 (8 * l + i))) → offB h1 h3 60 65 → ∀ o4 o5 o6 o7 o8 o9, lok o4 = true → lok o5 = true → lok o6 = true → lok o7 = true → lok o8 = true → J X RX7 cX7_orders 10 1 none Q 133 [some (.ref 51), some (.int (nI l)), some (.int (nI i)), some (.int (nI j)), o4, o5, o6, o7, o8, o9] [] h3 := by
        intro h3 Q3 O3 o4 o5 o6 o7 o8 o9 l4 l5 l6 l7 l8
        have p3 := md_ps p O3 Q3
        have e1 : ∀ t, t ≠ i → t ≠ j → eset (eset V1 (8 * l + i) (V1 (8 * l + j))) (8 * l + j) (V1 (8 * l + i)) (8 * l + t) = V1 (8 * l + t) := fun t z1 z2 => by rw [eset_n (by omega), eset_n (by omega)]
        have ei : eset (eset V1 (8 * l + i) (V1 (8 * l + j))) (8 * l + j) (V1 (8 * l + i)) (8 * l + i) = V1 (8 * l + j) := by rw [eset_n (by omega), eset_s]
        have ej : eset (eset V1 (8 * l + i) (V1 (8 * l + j))) (8 * l + j) (V1 (8 * l + i)) (8 * l + j) = V1 (8 * l + i) := eset_s
        first | refine J_inc_3 dX7_orders_133 (Nat.le_of_ble_eq_true rfl) rfl ?_ | refine J_iinc_3 dX7_orders_133 rfl (Nat.le_of_ble_eq_true rfl) rfl ?_
        refine J_goto (tgt := 16) dX7_orders_136 (by decide) ?_
        refine ih (j + 1) h3 _ _ _ _ _ _ _ (by omega) (by omega) l4 l5 l6 l7 l8 p3 Q3 (ho.tr O3) (fun t ht => by rw [eset_n (by omega), eset_n (by omega)]; exact hV t ht) (ga_swap hg hi (by omega)) (fun a b z1 z2 z3 => ?_) (fun b z1 z2 => ?_)
        · rw [e1 a (by omega) (by omega)]
          by_cases y1 : b = i
          · rw [y1, ei]; exact hs1 a j z1 (by omega) (by omega)
          · by_cases y2 : b = j
            · rw [y2, ej]; exact hs1 a i z1 (by omega) (by omega)
            · rw [e1 b y1 y2]; exact hs1 a b z1 z2 z3
        · rw [ei]
          by_cases y2 : b = j
          · rw [y2, ej]; exact hlj
          · rw [e1 b (by omega) y2]; exact leq_tr hlj (hs2 b z1 (by omega))
      refine J_iload_3 dX7_orders_16 ?_
      refine J_aload_0 dX7_orders_17 ?_
      refine J_get dX7_orders_18 fl_X7_34 h0 rfl ?_
      refine J_iload_1 dX7_orders_21 ?_
      refine J_iald dX7_orders_22 q0 rfl (by omega) (by omega) ?_
      refine J_icmp_geN (tgt := 139) dX7_orders_23 (by decide) (by omega) (by omega) (fun c => absurd c (by omega)) (fun _ => ?_)
      refine J_bipush (v := nI 8) dX7_orders_26 (by decide) ?_
      refine J_iload_1 dX7_orders_28 ?_
      first | refine J_imulN dX7_orders_29 ?_ | refine J_imul dX7_orders_29 ?_
      refine J_iload_2 dX7_orders_30 ?_
      first | refine J_iaddN dX7_orders_31 ?_ | refine J_iadd dX7_orders_31 ?_
      refine J_istore_4 dX7_orders_32 (Nat.le_of_ble_eq_true rfl) rfl ?_
      refine J_bipush (v := nI 8) dX7_orders_34 (by decide) ?_
      refine J_iload_1 dX7_orders_36 ?_
      first | refine J_imulN dX7_orders_37 ?_ | refine J_imul dX7_orders_37 ?_
      refine J_iload_3 dX7_orders_38 ?_
      first | refine J_iaddN dX7_orders_39 ?_ | refine J_iadd dX7_orders_39 ?_
      refine J_istore_5 dX7_orders_40 (Nat.le_of_ble_eq_true rfl) rfl ?_
      refine J_aload_0 dX7_orders_42 ?_
      refine J_iload_5 dX7_orders_43 ?_
      refine J_iload_4 dX7_orders_45 ?_
      refine J_cV2i dX7_orders_47 jmX7_isAhead mv_X7_159 h0 rfl (Nat.le_of_ble_eq_true rfl) (by decide) (ha) ?_
      refine J_if_eq (tgt := 133) dX7_orders_50 (by decide) (fun c => absurd c (by decide)) (fun _ => ?_)
      refine J_aload_0 dX7_orders_53 ?_
      refine J_get dX7_orders_54 fl_X7_37 h0 rfl ?_
      refine J_iload_4 dX7_orders_57 ?_
      refine J_iald dX7_orders_59 q1 rfl (by omega) (by omega) ?_
      refine J_istore_6 dX7_orders_60 (Nat.le_of_ble_eq_true rfl) rfl ?_
      refine J_aload_0 dX7_orders_62 ?_
      refine J_get dX7_orders_63 fl_X7_40 h0 rfl ?_
      refine J_iload_4 dX7_orders_66 ?_
      refine J_iald dX7_orders_68 q2 rfl (by omega) (by omega) ?_
      refine J_istore_7 dX7_orders_69 (Nat.le_of_ble_eq_true rfl) rfl ?_
      refine J_aload_0 dX7_orders_71 ?_
      refine J_get dX7_orders_72 fl_X7_43 h0 rfl ?_
      refine J_iload_4 dX7_orders_75 ?_
      refine J_iald dX7_orders_77 q3 rfl (by omega) (by omega) ?_
      refine J_istore_8 dX7_orders_78 (Nat.le_of_ble_eq_true rfl) rfl ?_
      refine J_aload_0 dX7_orders_80 ?_
      refine J_get dX7_orders_81 fl_X7_46 h0 rfl ?_
      refine J_iload_4 dX7_orders_84 ?_
      refine J_iald dX7_orders_86 q4 rfl (by omega) (by omega) ?_
      refine J_istore_9 dX7_orders_87 (Nat.le_of_ble_eq_true rfl) rfl ?_
      refine J_aload_0 dX7_orders_89 ?_
      refine J_iload_5 dX7_orders_90 ?_
      refine J_iload_4 dX7_orders_92 ?_
      refine J_cV2 dX7_orders_94 jmX7_copies mv_X7_155 h0 rfl (Nat.le_of_ble_eq_true rfl) (by decide) (m_copies (tb := tb) (D := D) h0 q (i := 8 * l + j) (j := 8 * l + i) (by omega) (by omega)) (fun r h' q => ?_)
      obtain ⟨rfl, Q2, O2⟩ := q
      have k0 := hAt_off h0 O2 (by omega)
      obtain ⟨-, r1, r2, r3, r4⟩ := id Q2
      refine J_aload_0 dX7_orders_97 ?_
      refine J_get dX7_orders_98 fl_X7_37 k0 rfl ?_
      refine J_iload_5 dX7_orders_101 ?_
      refine J_iload_6 dX7_orders_103 ?_
      refine J_iast dX7_orders_105 r1 rfl (by omega) (by omega) ?_
      refine J_aload_0 dX7_orders_106 ?_
      refine J_get dX7_orders_107 fl_X7_40 (hAt_ne k0 (by omega)) rfl ?_
      refine J_iload_5 dX7_orders_110 ?_
      refine J_iload_7 dX7_orders_112 ?_
      refine J_iast dX7_orders_114 (hAt_ne r2 (by omega)) rfl (by omega) (by omega) ?_
      refine J_aload_0 dX7_orders_115 ?_
      refine J_get dX7_orders_116 fl_X7_43 (hAt_ne (hAt_ne k0 (by omega)) (by omega)) rfl ?_
      refine J_iload_5 dX7_orders_119 ?_
      refine J_iload_8 dX7_orders_121 ?_
      refine J_iast dX7_orders_123 (hAt_ne (hAt_ne r3 (by omega)) (by omega)) rfl (by omega) (by omega) ?_
      refine J_aload_0 dX7_orders_124 ?_
      refine J_get dX7_orders_125 fl_X7_46 (hAt_ne (hAt_ne (hAt_ne k0 (by omega)) (by omega)) (by omega)) rfl ?_
      refine J_iload_5 dX7_orders_128 ?_
      refine J_iload_9 dX7_orders_130 ?_
      refine J_iast dX7_orders_132 (hAt_ne (hAt_ne (hAt_ne r4 (by omega)) (by omega)) (by omega)) rfl (by omega) (by omega) ?_
      exact go _ (mps_put (v := V1 (8 * l + i)) Q2) (O2.tr ((((offB.rf.hu (by omega) (by omega)).hu (by omega) (by omega)).hu (by omega) (by omega)).hu (by omega) (by omega))) _ _ _ _ _ _ rfl rfl rfl rfl rfl
    · rw [bI_f c] at ha
      have hlj := leq_of_nbeh c
      refine J_iload_3 dX7_orders_16 ?_
      refine J_aload_0 dX7_orders_17 ?_
      refine J_get dX7_orders_18 fl_X7_34 h0 rfl ?_
      refine J_iload_1 dX7_orders_21 ?_
      refine J_iald dX7_orders_22 q0 rfl (by omega) (by omega) ?_
      refine J_icmp_geN (tgt := 139) dX7_orders_23 (by decide) (by omega) (by omega) (fun c => absurd c (by omega)) (fun _ => ?_)
      refine J_bipush (v := nI 8) dX7_orders_26 (by decide) ?_
      refine J_iload_1 dX7_orders_28 ?_
      first | refine J_imulN dX7_orders_29 ?_ | refine J_imul dX7_orders_29 ?_
      refine J_iload_2 dX7_orders_30 ?_
      first | refine J_iaddN dX7_orders_31 ?_ | refine J_iadd dX7_orders_31 ?_
      refine J_istore_4 dX7_orders_32 (Nat.le_of_ble_eq_true rfl) rfl ?_
      refine J_bipush (v := nI 8) dX7_orders_34 (by decide) ?_
      refine J_iload_1 dX7_orders_36 ?_
      first | refine J_imulN dX7_orders_37 ?_ | refine J_imul dX7_orders_37 ?_
      refine J_iload_3 dX7_orders_38 ?_
      first | refine J_iaddN dX7_orders_39 ?_ | refine J_iadd dX7_orders_39 ?_
      refine J_istore_5 dX7_orders_40 (Nat.le_of_ble_eq_true rfl) rfl ?_
      refine J_aload_0 dX7_orders_42 ?_
      refine J_iload_5 dX7_orders_43 ?_
      refine J_iload_4 dX7_orders_45 ?_
      refine J_cV2i dX7_orders_47 jmX7_isAhead mv_X7_159 h0 rfl (Nat.le_of_ble_eq_true rfl) (by decide) (ha) ?_
      refine J_if_eq (tgt := 133) dX7_orders_50 (by decide) (fun _ => ?_) (fun c => absurd (by rfl) c)
      first | refine J_inc_3 dX7_orders_133 (Nat.le_of_ble_eq_true rfl) rfl ?_ | refine J_iinc_3 dX7_orders_133 rfl (Nat.le_of_ble_eq_true rfl) rfl ?_
      refine J_goto (tgt := 16) dX7_orders_136 (by decide) ?_
      exact ih (j + 1) h1 V1 _ _ _ _ _ _ (by omega) (by omega) rfl rfl l6 l7 l8 p q ho hV hg hs1 (fun b z1 z2 => by by_cases z : b = j; (rw [z]; exact hlj); exact hs2 b z1 (by omega))
theorem l_mordI {h : HF} {l w : Nat} (hl : l < 2) {V0 : Nat → Nat → Nat} (h8 : m l ≤ 8) :
    ∀ (k i : Nat) (h1 : HF) (V1 : Nat → Nat → Nat) (o3 o4 o5 o6 o7 o8 o9 : Option Value), i + k = m l → lok o3 = true → lok o4 = true → lok o5 = true → lok o6 = true → lok o7 = true → lok o8 = true → mdAt h1 D tb F → mps h1 m V1 → offB h h1 60 65 → (∀ j, (j < 8 * l ∨ 8 * l + 8 ≤ j) → V1 j = V0 j) → ga D l w (m l) V1 → (∀ a b, a < i → a < b → b < m l → leq (V1 (8 * l + a)) (V1 (8 * l + b))) →
    J X RX7 cX7_orders 10 1 none (fun r h' => r = none ∧ offB h h' 60 65 ∧ ∃ V', mps h' m V' ∧ (∀ j, (j < 8 * l ∨ 8 * l + 8 ≤ j) → V' j = V0 j) ∧ ga D l w (m l) V' ∧ ∀ a b, a < b → b < m l → leq (V' (8 * l + a)) (V' (8 * l + b))) 2 [some (.ref 51), some (.int (nI l)), some (.int (nI i)), o3, o4, o5, o6, o7, o8, o9] [] h1 := by
  intro k
  induction k with
  | zero =>
    intro i h1 V1 o3 o4 o5 o6 o7 o8 o9 hi l3 l4 l5 l6 l7 l8 p q ho hV hg hs
    have h0 := p.1
    have q0 := q.1
    refine J_iload_2 dX7_orders_2 ?_
    refine J_aload_0 dX7_orders_3 ?_
    refine J_get dX7_orders_4 fl_X7_34 h0 rfl ?_
    refine J_iload_1 dX7_orders_7 ?_
    refine J_iald dX7_orders_8 q0 rfl (by omega) (by omega) ?_
    refine J_icmp_geN (tgt := 145) dX7_orders_9 (by decide) (by omega) (by omega) (fun _ => ?_) (fun c => absurd c (by omega))
    exact J_vret dX7_orders_145 rfl (⟨rfl, ho, V1, q, hV, hg, fun a b z1 z2 => hs a b (by omega) z1 z2⟩)
  | succ k ih =>
    intro i h1 V1 o3 o4 o5 o6 o7 o8 o9 hi l3 l4 l5 l6 l7 l8 p q ho hV hg hs
    have h0 := p.1
    have q0 := q.1
    refine J_iload_2 dX7_orders_2 ?_
    refine J_aload_0 dX7_orders_3 ?_
    refine J_get dX7_orders_4 fl_X7_34 h0 rfl ?_
    refine J_iload_1 dX7_orders_7 ?_
    refine J_iald dX7_orders_8 q0 rfl (by omega) (by omega) ?_
    refine J_icmp_geN (tgt := 145) dX7_orders_9 (by decide) (by omega) (by omega) (fun c => absurd c (by omega)) (fun _ => ?_)
    refine J_iload_2 dX7_orders_12 ?_
    refine J_iconst (v := nI 1) dX7_orders_13 (by decide) ?_
    first | refine J_iaddN dX7_orders_14 ?_ | refine J_iadd dX7_orders_14 ?_
    refine J_istore_3 dX7_orders_15 (Nat.le_of_ble_eq_true rfl) rfl ?_
    refine l_mordJ (h := h) (V0 := V0) (tb := tb) (F := F) hl h8 (by omega) (fun h2 j V2 o4 o5 o6 o7 o8 o9 l4 l5 l6 l7 l8 p2 q2 o2 hV2 hg2 hs2 => ?_) (m l - (i + 1)) (i + 1) h1 V1 _ _ _ _ _ _ (by omega) (by omega) l4 l5 l6 l7 l8 p q ho hV hg hs (fun b z1 z2 => by omega)
    first | refine J_inc_2 dX7_orders_139 (Nat.le_of_ble_eq_true rfl) rfl ?_ | refine J_iinc_2 dX7_orders_139 rfl (Nat.le_of_ble_eq_true rfl) rfl ?_
    refine J_goto (tgt := 2) dX7_orders_142 (by decide) ?_
    exact ih (i + 1) h2 V2 _ _ _ _ _ _ _ (by omega) rfl l4 l5 l6 l7 l8 p2 q2 o2 hV2 hg2 hs2
theorem m_orders (p : mdAt h D tb F) (q : mps h m V) {l w : Nat} (hl : l < 2) (h8 : m l ≤ 8) (hg : ga D l w (m l) V) : Ct X mX7_orders 1 [.ref 51, .int (nI l)] h (fun r h' => r = none ∧ offB h h' 60 65 ∧ ∃ V', mps h' m V' ∧ (∀ j, (j < 8 * l ∨ 8 * l + 8 ≤ j) → V' j = V j) ∧ ga D l w (m l) V' ∧ ∀ a b, a < b → b < m l → leq (V' (8 * l + a)) (V' (8 * l + b))) := by
  refine Ct_of jmX7_orders [some (.ref 51), some (.int (nI l)), none, none, none, none, none, none, none, none] (Nat.le_of_ble_eq_true rfl) rfl ?_
  show J X RX7 cX7_orders 10 _ none _ 0 _ _ _
  refine J_iconst (v := nI 0) dX7_orders_0 (by decide) ?_
  refine J_istore_2 dX7_orders_1 (Nat.le_of_ble_eq_true rfl) rfl ?_
  exact l_mordI hl h8 (m l) 0 h V _ _ _ _ _ _ _ (by omega) rfl rfl rfl rfl rfl rfl p q offB.rf (fun j _ => rfl) hg (fun a b z => by omega)
/-- ordered, and none near: apart -/
theorem ga_sep {l w n : Nat} (h : ga D l w n V) (hs : ∀ a b, a < b → b < n → leq (V (8 * l + a)) (V (8 * l + b))) : sepd (dst D 2) (fun t => V (8 * l + t)) n := by
  intro i j hij hj
  have h1 := hs i j hij hj
  have h2 := h.2 i j (by omega) hj (by omega)
  have h3 : ¬ (V (8 * l + i) 0 = V (8 * l + j) 0 ∧ V (8 * l + j) 1 ≤ V (8 * l + i) 2 + 1 + dst D 2 ∧ V (8 * l + i) 1 ≤ V (8 * l + j) 2 + 1 + dst D 2) := fun z => h2 (nearB_iff.mpr z)
  have h4 : V (8 * l + j) 1 ≤ V (8 * l + j) 2 := (h.1.1 j hj).1.2.1
  unfold leq at h1
  show V (8 * l + i) 0 < V (8 * l + j) 0 ∨ (V (8 * l + i) 0 = V (8 * l + j) 0 ∧ V (8 * l + i) 2 + 1 + dst D 2 < V (8 * l + j) 1)
  omega
end
