section
variable {X : Cx} {h : HF} {D : DS} {tb : Int32} {F : Nat → Nat → Int32} {m : Nat → Nat} {V : Nat → Nat → Nat}
theorem l_mpul (p : mdAt h D tb F) (q : mps h m V) (ql : mpl D 0 8 m V) {r x : Nat} (hr : r < 6) (hx : x < 2 ^ 20) {fin : Bool} : ∀ (k i : Nat) (b : Bool), i + k = plN D 0 8 → (b || pul (plG D 0 8) r x i k) = fin → J X RX7 cX7_isPulled 5 1 (some .boolean) (fun q h' => q = some (.int (bI (fin = true))) ∧ h' = h) 5 [some (.ref 51), some (.int (nI r)), some (.int (nI x)), some (.int (bI (b = true))), some (.int (nI i))] [] h := by
  have h0 := p.1
  obtain ⟨q0, q1, q2, q3, q4⟩ := id q
  have hd : dok D := p.2.2.2.2.2.2.2.2
  obtain ⟨hN, hP⟩ := pl_P hd (l := 0) (w := 8) (by decide)
  intro k
  induction k with
  | zero =>
    intro i b hi hb
    have hb : b = fin := by rw [← hb]; exact (Bool.or_false b).symm
    subst hb
    refine J_iload_4 dX7_isPulled_5 ?_
    refine J_aload_0 dX7_isPulled_7 ?_
    refine J_get dX7_isPulled_8 fl_X7_34 h0 rfl ?_
    refine J_iconst (v := nI 0) dX7_isPulled_11 (by decide) ?_
    refine J_iald dX7_isPulled_12 q0 rfl (by omega) (by omega) ?_
    refine J_topi (b := nI (plN D 0 8)) (congrArg nI ql.1) ?_
    refine J_icmp_geN (tgt := 64) dX7_isPulled_13 (by decide) (by omega) (by omega) (fun _ => ?_) (fun c => absurd c (by omega))
    refine J_iload_3 dX7_isPulled_64 ?_
    exact J_zret dX7_isPulled_65 rfl (by first | exact Or.inl rfl | exact Or.inr rfl | exact bI_01 _) (⟨rfl, rfl⟩)
  | succ k ih =>
    intro i b hi hb
    have eq := ql.2 i (by omega)
    rw [show 8 * 0 + i = i by omega] at eq
    obtain ⟨e0, e1, e2, e3⟩ := eq
    obtain ⟨s0, s1, s2, s3⟩ := hP i (by omega)
    rw [pul] at hb
    by_cases cb : b = true
    · subst cb
      refine J_iload_4 dX7_isPulled_5 ?_
      refine J_aload_0 dX7_isPulled_7 ?_
      refine J_get dX7_isPulled_8 fl_X7_34 h0 rfl ?_
      refine J_iconst (v := nI 0) dX7_isPulled_11 (by decide) ?_
      refine J_iald dX7_isPulled_12 q0 rfl (by omega) (by omega) ?_
      refine J_topi (b := nI (plN D 0 8)) (congrArg nI ql.1) ?_
      refine J_icmp_geN (tgt := 64) dX7_isPulled_13 (by decide) (by omega) (by omega) (fun c => absurd c (by omega)) (fun _ => ?_)
      refine J_iload_3 dX7_isPulled_16 ?_
      refine J_if_ne (tgt := 52) dX7_isPulled_17 (by decide) (fun _ => ?_) (fun c => absurd c (by decide))
      refine J_iconst (v := nI 1) dX7_isPulled_52 (by decide) ?_
      refine J_goto (tgt := 57) dX7_isPulled_53 (by decide) ?_
      refine J_istore_3 dX7_isPulled_57 (Nat.le_of_ble_eq_true rfl) rfl ?_
      first | refine J_inc_4 dX7_isPulled_58 (Nat.le_of_ble_eq_true rfl) rfl ?_ | refine J_iinc_4 dX7_isPulled_58 rfl (Nat.le_of_ble_eq_true rfl) rfl ?_
      refine J_goto (tgt := 5) dX7_isPulled_61 (by decide) ?_
      exact ih (i + 1) true (by omega) (by rw [← hb, Bool.true_or, Bool.true_or])
    · have cb : b = false := by simpa using cb
      subst cb
      by_cases c0 : plG D 0 8 i 0 = r
      · by_cases c1 : plG D 0 8 i 1 ≤ x ∧ x ≤ plG D 0 8 i 2
        · refine J_iload_4 dX7_isPulled_5 ?_
          refine J_aload_0 dX7_isPulled_7 ?_
          refine J_get dX7_isPulled_8 fl_X7_34 h0 rfl ?_
          refine J_iconst (v := nI 0) dX7_isPulled_11 (by decide) ?_
          refine J_iald dX7_isPulled_12 q0 rfl (by omega) (by omega) ?_
          refine J_topi (b := nI (plN D 0 8)) (congrArg nI ql.1) ?_
          refine J_icmp_geN (tgt := 64) dX7_isPulled_13 (by decide) (by omega) (by omega) (fun c => absurd c (by omega)) (fun _ => ?_)
          refine J_iload_3 dX7_isPulled_16 ?_
          refine J_if_ne (tgt := 52) dX7_isPulled_17 (by decide) (fun c => absurd c (by decide)) (fun _ => ?_)
          refine J_aload_0 dX7_isPulled_20 ?_
          refine J_get dX7_isPulled_21 fl_X7_37 h0 rfl ?_
          refine J_iload_4 dX7_isPulled_24 ?_
          refine J_iald dX7_isPulled_26 q1 rfl (by omega) (by omega) ?_
          refine J_topi (b := nI (plG D 0 8 i 0)) (congrArg nI e0) ?_
          refine J_iload_1 dX7_isPulled_27 ?_
          refine J_icmp_neN (tgt := 56) dX7_isPulled_28 (by decide) (by omega) (by omega) (fun c => absurd c (by omega)) (fun _ => ?_)
          refine J_iload_2 dX7_isPulled_31 ?_
          refine J_aload_0 dX7_isPulled_32 ?_
          refine J_get dX7_isPulled_33 fl_X7_40 h0 rfl ?_
          refine J_iload_4 dX7_isPulled_36 ?_
          refine J_iald dX7_isPulled_38 q2 rfl (by omega) (by omega) ?_
          refine J_topi (b := nI (plG D 0 8 i 1)) (congrArg nI e1) ?_
          refine J_aload_0 dX7_isPulled_39 ?_
          refine J_get dX7_isPulled_40 fl_X7_43 h0 rfl ?_
          refine J_iload_4 dX7_isPulled_43 ?_
          refine J_iald dX7_isPulled_45 q3 rfl (by omega) (by omega) ?_
          refine J_topi (b := nI (plG D 0 8 i 2)) (congrArg nI e2) ?_
          refine J_cS3i dX7_isPulled_46 jmX7_in ms_X7_69 (Nat.le_of_ble_eq_true rfl) (by decide) (m_inT c1.1 c1.2 (by omega)) ?_
          refine J_if_eq (tgt := 56) dX7_isPulled_49 (by decide) (fun c => absurd c (by decide)) (fun _ => ?_)
          refine J_iconst (v := nI 1) dX7_isPulled_52 (by decide) ?_
          refine J_goto (tgt := 57) dX7_isPulled_53 (by decide) ?_
          refine J_istore_3 dX7_isPulled_57 (Nat.le_of_ble_eq_true rfl) rfl ?_
          first | refine J_inc_4 dX7_isPulled_58 (Nat.le_of_ble_eq_true rfl) rfl ?_ | refine J_iinc_4 dX7_isPulled_58 rfl (Nat.le_of_ble_eq_true rfl) rfl ?_
          refine J_goto (tgt := 5) dX7_isPulled_61 (by decide) ?_
          exact ih (i + 1) true (by omega) (by rw [← hb, decide_eq_true c0, decide_eq_true c1.1, decide_eq_true c1.2]; rfl)
        · have hv : ¬ (nI (plG D 0 8 i 1) ≤ nI x ∧ nI x ≤ nI (plG D 0 8 i 2)) := fun z => c1 ⟨(nI_leI (by omega) (by omega)).mp z.1, (nI_leI (by omega) (by omega)).mp z.2⟩
          have hz : (decide (plG D 0 8 i 1 ≤ x) && decide (x ≤ plG D 0 8 i 2)) = false := by
            by_cases y : plG D 0 8 i 1 ≤ x
            · rw [decide_eq_false (fun z => c1 ⟨y, z⟩), Bool.and_false]
            · rw [decide_eq_false y, Bool.false_and]
          refine J_iload_4 dX7_isPulled_5 ?_
          refine J_aload_0 dX7_isPulled_7 ?_
          refine J_get dX7_isPulled_8 fl_X7_34 h0 rfl ?_
          refine J_iconst (v := nI 0) dX7_isPulled_11 (by decide) ?_
          refine J_iald dX7_isPulled_12 q0 rfl (by omega) (by omega) ?_
          refine J_topi (b := nI (plN D 0 8)) (congrArg nI ql.1) ?_
          refine J_icmp_geN (tgt := 64) dX7_isPulled_13 (by decide) (by omega) (by omega) (fun c => absurd c (by omega)) (fun _ => ?_)
          refine J_iload_3 dX7_isPulled_16 ?_
          refine J_if_ne (tgt := 52) dX7_isPulled_17 (by decide) (fun c => absurd c (by decide)) (fun _ => ?_)
          refine J_aload_0 dX7_isPulled_20 ?_
          refine J_get dX7_isPulled_21 fl_X7_37 h0 rfl ?_
          refine J_iload_4 dX7_isPulled_24 ?_
          refine J_iald dX7_isPulled_26 q1 rfl (by omega) (by omega) ?_
          refine J_topi (b := nI (plG D 0 8 i 0)) (congrArg nI e0) ?_
          refine J_iload_1 dX7_isPulled_27 ?_
          refine J_icmp_neN (tgt := 56) dX7_isPulled_28 (by decide) (by omega) (by omega) (fun c => absurd c (by omega)) (fun _ => ?_)
          refine J_iload_2 dX7_isPulled_31 ?_
          refine J_aload_0 dX7_isPulled_32 ?_
          refine J_get dX7_isPulled_33 fl_X7_40 h0 rfl ?_
          refine J_iload_4 dX7_isPulled_36 ?_
          refine J_iald dX7_isPulled_38 q2 rfl (by omega) (by omega) ?_
          refine J_topi (b := nI (plG D 0 8 i 1)) (congrArg nI e1) ?_
          refine J_aload_0 dX7_isPulled_39 ?_
          refine J_get dX7_isPulled_40 fl_X7_43 h0 rfl ?_
          refine J_iload_4 dX7_isPulled_43 ?_
          refine J_iald dX7_isPulled_45 q3 rfl (by omega) (by omega) ?_
          refine J_topi (b := nI (plG D 0 8 i 2)) (congrArg nI e2) ?_
          refine J_cS3i dX7_isPulled_46 jmX7_in ms_X7_69 (Nat.le_of_ble_eq_true rfl) (by decide) (m_inF hv) ?_
          refine J_if_eq (tgt := 56) dX7_isPulled_49 (by decide) (fun _ => ?_) (fun c => absurd (by rfl) c)
          refine J_iconst (v := nI 0) dX7_isPulled_56 (by decide) ?_
          refine J_istore_3 dX7_isPulled_57 (Nat.le_of_ble_eq_true rfl) rfl ?_
          first | refine J_inc_4 dX7_isPulled_58 (Nat.le_of_ble_eq_true rfl) rfl ?_ | refine J_iinc_4 dX7_isPulled_58 rfl (Nat.le_of_ble_eq_true rfl) rfl ?_
          refine J_goto (tgt := 5) dX7_isPulled_61 (by decide) ?_
          exact ih (i + 1) false (by omega) (by rw [← hb, hz]; simp)
      · refine J_iload_4 dX7_isPulled_5 ?_
        refine J_aload_0 dX7_isPulled_7 ?_
        refine J_get dX7_isPulled_8 fl_X7_34 h0 rfl ?_
        refine J_iconst (v := nI 0) dX7_isPulled_11 (by decide) ?_
        refine J_iald dX7_isPulled_12 q0 rfl (by omega) (by omega) ?_
        refine J_topi (b := nI (plN D 0 8)) (congrArg nI ql.1) ?_
        refine J_icmp_geN (tgt := 64) dX7_isPulled_13 (by decide) (by omega) (by omega) (fun c => absurd c (by omega)) (fun _ => ?_)
        refine J_iload_3 dX7_isPulled_16 ?_
        refine J_if_ne (tgt := 52) dX7_isPulled_17 (by decide) (fun c => absurd c (by decide)) (fun _ => ?_)
        refine J_aload_0 dX7_isPulled_20 ?_
        refine J_get dX7_isPulled_21 fl_X7_37 h0 rfl ?_
        refine J_iload_4 dX7_isPulled_24 ?_
        refine J_iald dX7_isPulled_26 q1 rfl (by omega) (by omega) ?_
        refine J_topi (b := nI (plG D 0 8 i 0)) (congrArg nI e0) ?_
        refine J_iload_1 dX7_isPulled_27 ?_
        refine J_icmp_neN (tgt := 56) dX7_isPulled_28 (by decide) (by omega) (by omega) (fun _ => ?_) (fun c => absurd c (by omega))
        refine J_iconst (v := nI 0) dX7_isPulled_56 (by decide) ?_
        refine J_istore_3 dX7_isPulled_57 (Nat.le_of_ble_eq_true rfl) rfl ?_
        first | refine J_inc_4 dX7_isPulled_58 (Nat.le_of_ble_eq_true rfl) rfl ?_ | refine J_iinc_4 dX7_isPulled_58 rfl (Nat.le_of_ble_eq_true rfl) rfl ?_
        refine J_goto (tgt := 5) dX7_isPulled_61 (by decide) ?_
        exact ih (i + 1) false (by omega) (by rw [← hb, decide_eq_false c0]; simp)
theorem m_isPulled (p : mdAt h D tb F) (q : mps h m V) (ql : mpl D 0 8 m V) {r x : Nat} (hr : r < 6) (hx : x < 2 ^ 20) : CtI X mX7_isPulled 1 [.ref 51, .int (nI r), .int (nI x)] h (bI (pul (plG D 0 8) r x 0 (plN D 0 8) = true)) := by
  have e := l_mpul (X := X) p q ql hr hx (plN D 0 8) 0 false (by omega) rfl
  rw [Bool.false_or] at e
  refine Ct_of jmX7_isPulled [some (.ref 51), some (.int (nI r)), some (.int (nI x)), none, none] (Nat.le_of_ble_eq_true rfl) rfl ?_
  show J X RX7 cX7_isPulled 5 _ (some .boolean) _ 0 _ _ _
  refine J_iconst (v := nI 0) dX7_isPulled_0 (by decide) ?_
  refine J_istore_3 dX7_isPulled_1 (Nat.le_of_ble_eq_true rfl) rfl ?_
  refine J_iconst (v := nI 0) dX7_isPulled_2 (by decide) ?_
  refine J_istore_4 dX7_isPulled_3 (Nat.le_of_ble_eq_true rfl) rfl ?_
  exact e
theorem l_manF (p : mdAt h D tb F) (q : mps h m V) (q0l : mpl D 0 8 m V) (q1l : mpl D 1 8 m V) {v : Option Nat} (hv : ∀ i, v = some i → i < 2 ^ 31) {i b : Nat} (hi : i < plN D 1 8) (hb : b < 2 ^ 18) {Q : Option Value → HF → Prop} {PF : List Nat} (kk : ∀ f : Nat, J X RX7 cX7_anewOf 7 3 (some .int) Q 124 [some (.ref 51), some (.int (oN v)), some (.int (nI PF.length)), some (.int (oN (fo v PF))), some (.int (nI (8 + i))), some (.int (nI b)), some (.int (nI f))] [] h) (hPF : PF.length < 2 ^ 31) : ∀ (c f : Nat) (P : List Nat), c = b + 1 - f → f < 2 ^ 19 → P ++ bfl (plG D 0 8) (plG D 1 8 i 0) 0 (plN D 0 8) f c = PF → J X RX7 cX7_anewOf 7 3 (some .int) Q 69 [some (.ref 51), some (.int (oN v)), some (.int (nI P.length)), some (.int (oN (fo v P))), some (.int (nI (8 + i))), some (.int (nI b)), some (.int (nI f))] [] h := by
  have h0 := p.1
  obtain ⟨q0, q1, q2, q3, q4⟩ := id q
  have hd : dok D := p.2.2.2.2.2.2.2.2
  obtain ⟨hN, hP⟩ := pl_P hd (l := 1) (w := 8) (by decide)
  obtain ⟨s0, s1, s2, s3⟩ := hP i hi
  have eq := q1l.2 i hi
  rw [show 8 * 1 + i = 8 + i by omega] at eq
  obtain ⟨e0, e1, e2, e3⟩ := eq
  intro c
  induction c with
  | zero =>
    intro f P hc hf hPP
    have hPP : P = PF := by rw [← hPP]; exact (List.append_nil P).symm
    subst hPP
    refine J_iload_6 dX7_anewOf_69 ?_
    refine J_iload_5 dX7_anewOf_71 ?_
    refine J_icmp_gtN (tgt := 124) dX7_anewOf_73 (by decide) (by omega) (by omega) (fun _ => ?_) (fun c => absurd c (by omega))
    exact kk f
  | succ c ih =>
    intro f P hc hf hPP
    have hpu := m_isPulled (X := X) p q q0l (r := plG D 1 8 i 0) (x := f) s0 (by omega)
    have hPl : P.length ≤ PF.length := by rw [← hPP, List.length_append]; omega
    rw [bfl] at hPP
    by_cases cp : pul (plG D 0 8) (plG D 1 8 i 0) f 0 (plN D 0 8) = true
    · rw [if_pos cp] at hPP
      rw [bI_t cp] at hpu
      refine J_iload_6 dX7_anewOf_69 ?_
      refine J_iload_5 dX7_anewOf_71 ?_
      refine J_icmp_gtN (tgt := 124) dX7_anewOf_73 (by decide) (by omega) (by omega) (fun c => absurd c (by omega)) (fun _ => ?_)
      refine J_aload_0 dX7_anewOf_76 ?_
      refine J_aload_0 dX7_anewOf_77 ?_
      refine J_get dX7_anewOf_78 fl_X7_37 h0 rfl ?_
      refine J_iload_4 dX7_anewOf_81 ?_
      refine J_iald dX7_anewOf_83 q1 rfl (by omega) (by omega) ?_
      refine J_topi (b := nI (plG D 1 8 i 0)) (congrArg nI e0) ?_
      refine J_iload_6 dX7_anewOf_84 ?_
      refine J_cV2i dX7_anewOf_86 jmX7_isPulled mv_X7_218 h0 rfl (Nat.le_of_ble_eq_true rfl) (by decide) (hpu) ?_
      refine J_if_ne (tgt := 118) dX7_anewOf_89 (by decide) (fun _ => ?_) (fun c => absurd c (by decide))
      first | refine J_inc_6 dX7_anewOf_118 (Nat.le_of_ble_eq_true rfl) rfl ?_ | refine J_iinc_6 dX7_anewOf_118 rfl (Nat.le_of_ble_eq_true rfl) rfl ?_
      refine J_goto (tgt := 69) dX7_anewOf_121 (by decide) ?_
      exact ih (f + 1) P (by omega) (by omega) hPP
    · rw [if_neg cp] at hPP
      rw [bI_f cp] at hpu
      have es := fo_snoc (v := v) (P := P) (c := 1000000 * plG D 1 8 i 0 + f) (by omega) hv
      have el : (P ++ [1000000 * plG D 1 8 i 0 + f]).length = P.length + 1 := by rw [List.length_append, List.length_singleton]
      have hPP2 : (P ++ [1000000 * plG D 1 8 i 0 + f]) ++ bfl (plG D 0 8) (plG D 1 8 i 0) 0 (plN D 0 8) (f + 1) c = PF := by rw [← hPP, List.append_assoc]; rfl
      have nx : ∀ x : Int32, x = oN (fo v (P ++ [1000000 * plG D 1 8 i 0 + f])) → J X RX7 cX7_anewOf 7 3 (some .int) Q 114 [some (.ref 51), some (.int (oN v)), some (.int (nI P.length)), some (.int (oN (fo v P))), some (.int (nI (8 + i))), some (.int (nI b)), some (.int (nI f))] [.int x] h := by
        rintro x rfl
        have z := ih (f + 1) _ (by omega) (by omega) hPP2
        rw [el] at z
        refine J_istore_3 dX7_anewOf_114 (Nat.le_of_ble_eq_true rfl) rfl ?_
        first | refine J_inc_2 dX7_anewOf_115 (Nat.le_of_ble_eq_true rfl) rfl ?_ | refine J_iinc_2 dX7_anewOf_115 rfl (Nat.le_of_ble_eq_true rfl) rfl ?_
        first | refine J_inc_6 dX7_anewOf_118 (Nat.le_of_ble_eq_true rfl) rfl ?_ | refine J_iinc_6 dX7_anewOf_118 rfl (Nat.le_of_ble_eq_true rfl) rfl ?_
        refine J_goto (tgt := 69) dX7_anewOf_121 (by decide) ?_
        exact z
      refine J_iload_6 dX7_anewOf_69 ?_
      refine J_iload_5 dX7_anewOf_71 ?_
      refine J_icmp_gtN (tgt := 124) dX7_anewOf_73 (by decide) (by omega) (by omega) (fun c => absurd c (by omega)) (fun _ => ?_)
      refine J_aload_0 dX7_anewOf_76 ?_
      refine J_aload_0 dX7_anewOf_77 ?_
      refine J_get dX7_anewOf_78 fl_X7_37 h0 rfl ?_
      refine J_iload_4 dX7_anewOf_81 ?_
      refine J_iald dX7_anewOf_83 q1 rfl (by omega) (by omega) ?_
      refine J_topi (b := nI (plG D 1 8 i 0)) (congrArg nI e0) ?_
      refine J_iload_6 dX7_anewOf_84 ?_
      refine J_cV2i dX7_anewOf_86 jmX7_isPulled mv_X7_218 h0 rfl (Nat.le_of_ble_eq_true rfl) (by decide) (hpu) ?_
      refine J_if_ne (tgt := 118) dX7_anewOf_89 (by decide) (fun c => absurd c (fun z => z rfl)) (fun _ => ?_)
      refine J_iload_2 dX7_anewOf_92 ?_
      refine J_iload_1 dX7_anewOf_93 ?_
      refine J_icmp_ne (tgt := 113) dX7_anewOf_94 (by decide) (fun c94 => ?_) (fun c94 => ?_)
      · refine J_iload_3 dX7_anewOf_113 ?_
        exact nx _ (by rw [es]; first | rw [if_pos c94] | rw [if_neg c94])
      · refine J_ldc (v := nI 1000000) dX7_anewOf_97 kc_X7_221 ?_
        refine J_aload_0 dX7_anewOf_99 ?_
        refine J_get dX7_anewOf_100 fl_X7_37 h0 rfl ?_
        refine J_iload_4 dX7_anewOf_103 ?_
        refine J_iald dX7_anewOf_105 q1 rfl (by omega) (by omega) ?_
        refine J_topi (b := nI (plG D 1 8 i 0)) (congrArg nI e0) ?_
        first | refine J_imulN dX7_anewOf_106 ?_ | refine J_imul dX7_anewOf_106 ?_
        refine J_iload_6 dX7_anewOf_107 ?_
        first | refine J_iaddN dX7_anewOf_109 ?_ | refine J_iadd dX7_anewOf_109 ?_
        refine J_goto (tgt := 114) dX7_anewOf_110 (by decide) ?_
        exact nx _ (by rw [es]; first | rw [if_pos c94] | rw [if_neg c94])
theorem l_manK (p : mdAt h D tb F) (q : mps h m V) (q0l : mpl D 0 8 m V) (q1l : mpl D 1 8 m V) {v : Option Nat} (hv : ∀ i, v = some i → i < 2 ^ 31) : ∀ (k i : Nat) (P : List Nat) (o5 o6 : Option Value), lok o5 = true → i + k = plN D 1 8 → P ++ bfA D i k = bfA D 0 (plN D 1 8) → J X RX7 cX7_anewOf 7 3 (some .int) (fun r h' => r = some (.int (if v = none then nI (sAnewN D) else oN (fo v (bfA D 0 (plN D 1 8))))) ∧ h' = h) 20 [some (.ref 51), some (.int (oN v)), some (.int (nI P.length)), some (.int (oN (fo v P))), some (.int (nI (8 + i))), o5, o6] [] h := by
  obtain ⟨h0, -, -, -, -, ⟨fl, hfl, hfl0⟩, -⟩ := id p
  obtain ⟨q0, q1, q2, q3, q4⟩ := id q
  have hd : dok D := p.2.2.2.2.2.2.2.2
  obtain ⟨hN, hP⟩ := pl_P hd (l := 1) (w := 8) (by decide)
  have hT := bfA_le hd (plN D 1 8) 0 (by omega)
  have hT2 : 2 ^ 18 * plN D 1 8 ≤ 2 ^ 18 * 8 := Nat.mul_le_mul_left _ hN
  intro k
  induction k with
  | zero =>
    intro i P o5 o6 l5 hi hPP
    have hPP : P = bfA D 0 (plN D 1 8) := by rw [← hPP]; exact (List.append_nil P).symm
    subst hPP
    cases v with
    | none =>
      rw [if_pos rfl, anN hd]
      refine J_iload_4 dX7_anewOf_20 ?_
      refine J_bipush (v := nI 8) dX7_anewOf_22 (by decide) ?_
      refine J_aload_0 dX7_anewOf_24 ?_
      refine J_get dX7_anewOf_25 fl_X7_34 h0 rfl ?_
      refine J_iconst (v := nI 1) dX7_anewOf_28 (by decide) ?_
      refine J_iald dX7_anewOf_29 q0 rfl (by omega) (by omega) ?_
      refine J_topi (b := nI (plN D 1 8)) (congrArg nI q1l.1) ?_
      first | refine J_iaddN dX7_anewOf_30 ?_ | refine J_iadd dX7_anewOf_30 ?_
      refine J_icmp_geN (tgt := 130) dX7_anewOf_31 (by decide) (by omega) (by omega) (fun _ => ?_) (fun c => absurd c (by omega))
      refine J_iload_1 dX7_anewOf_130 ?_
      refine J_iconst (v := -1) dX7_anewOf_131 (by decide) ?_
      refine J_icmp_ne (tgt := 139) dX7_anewOf_132 (by decide) (fun c => absurd c (fun z => z rfl)) (fun _ => ?_)
      refine J_iload_2 dX7_anewOf_135 ?_
      refine J_goto (tgt := 140) dX7_anewOf_136 (by decide) ?_
      exact J_iret dX7_anewOf_140 rfl (⟨rfl, rfl⟩)
    | some j =>
      rw [if_neg (fun z => by cases z)]
      refine J_iload_4 dX7_anewOf_20 ?_
      refine J_bipush (v := nI 8) dX7_anewOf_22 (by decide) ?_
      refine J_aload_0 dX7_anewOf_24 ?_
      refine J_get dX7_anewOf_25 fl_X7_34 h0 rfl ?_
      refine J_iconst (v := nI 1) dX7_anewOf_28 (by decide) ?_
      refine J_iald dX7_anewOf_29 q0 rfl (by omega) (by omega) ?_
      refine J_topi (b := nI (plN D 1 8)) (congrArg nI q1l.1) ?_
      first | refine J_iaddN dX7_anewOf_30 ?_ | refine J_iadd dX7_anewOf_30 ?_
      refine J_icmp_geN (tgt := 130) dX7_anewOf_31 (by decide) (by omega) (by omega) (fun _ => ?_) (fun c => absurd c (by omega))
      refine J_iload_1 dX7_anewOf_130 ?_
      refine J_iconst (v := -1) dX7_anewOf_131 (by decide) ?_
      refine J_icmp_ne (tgt := 139) dX7_anewOf_132 (by decide) (fun _ => ?_) (fun c => absurd c (oN_ne (n := j) (hv j rfl)))
      refine J_iload_3 dX7_anewOf_139 ?_
      exact J_iret dX7_anewOf_140 rfl (⟨rfl, rfl⟩)
  | succ k ih =>
    intro i P o5 o6 l5 hi hPP
    obtain ⟨s0, s1, s2, s3⟩ := hP i (by omega)
    have eq := q1l.2 i (by omega)
    rw [show 8 * 1 + i = 8 + i by omega] at eq
    obtain ⟨e0, e1, e2, e3⟩ := eq
    have hlen := hd.2.2.2.1 (plG D 1 8 i 0) s0
    rw [bfA, ← List.append_assoc] at hPP
    have hlt : (P ++ bfl (plG D 0 8) (plG D 1 8 i 0) 0 (plN D 0 8) (plG D 1 8 i 1) (min (plG D 1 8 i 2) (dl D (plG D 1 8 i 0) - 1) + 1 - plG D 1 8 i 1)).length ≤ (bfA D 0 (plN D 1 8)).length := by have z := congrArg List.length hPP; rw [List.length_append] at z; omega
    refine J_iload_4 dX7_anewOf_20 ?_
    refine J_bipush (v := nI 8) dX7_anewOf_22 (by decide) ?_
    refine J_aload_0 dX7_anewOf_24 ?_
    refine J_get dX7_anewOf_25 fl_X7_34 h0 rfl ?_
    refine J_iconst (v := nI 1) dX7_anewOf_28 (by decide) ?_
    refine J_iald dX7_anewOf_29 q0 rfl (by omega) (by omega) ?_
    refine J_topi (b := nI (plN D 1 8)) (congrArg nI q1l.1) ?_
    first | refine J_iaddN dX7_anewOf_30 ?_ | refine J_iadd dX7_anewOf_30 ?_
    refine J_icmp_geN (tgt := 130) dX7_anewOf_31 (by decide) (by omega) (by omega) (fun c => absurd c (by omega)) (fun _ => ?_)
    refine J_aload_0 dX7_anewOf_34 ?_
    refine J_get dX7_anewOf_35 fl_X7_43 h0 rfl ?_
    refine J_iload_4 dX7_anewOf_38 ?_
    refine J_iald dX7_anewOf_40 q3 rfl (by omega) (by omega) ?_
    refine J_topi (b := nI (plG D 1 8 i 2)) (congrArg nI e2) ?_
    refine J_aload_0 dX7_anewOf_41 ?_
    refine J_get dX7_anewOf_42 fl_X7_31 h0 rfl ?_
    refine J_aload_0 dX7_anewOf_45 ?_
    refine J_get dX7_anewOf_46 fl_X7_37 h0 rfl ?_
    refine J_iload_4 dX7_anewOf_49 ?_
    refine J_iald dX7_anewOf_51 q1 rfl (by omega) (by omega) ?_
    refine J_topi (b := nI (plG D 1 8 i 0)) (congrArg nI e0) ?_
    refine J_iald dX7_anewOf_52 hfl rfl s0 (by omega) ?_
    refine J_topi (b := nI (dl D (plG D 1 8 i 0))) (hfl0 _ s0) ?_
    refine J_iconst (v := nI 1) dX7_anewOf_53 (by decide) ?_
    first | refine J_isubN dX7_anewOf_54 (by omega) ?_ | refine J_isub dX7_anewOf_54 ?_
    refine J_cS2i dX7_anewOf_55 jmX7_min ms_X7_149 (Nat.le_of_ble_eq_true rfl) (by decide) (m_min) ?_
    refine J_topi (b := nI (min (plG D 1 8 i 2) (dl D (plG D 1 8 i 0) - 1))) (minN (by omega) (by omega)) ?_
    refine J_istore_5 dX7_anewOf_58 (Nat.le_of_ble_eq_true rfl) rfl ?_
    refine J_aload_0 dX7_anewOf_60 ?_
    refine J_get dX7_anewOf_61 fl_X7_40 h0 rfl ?_
    refine J_iload_4 dX7_anewOf_64 ?_
    refine J_iald dX7_anewOf_66 q2 rfl (by omega) (by omega) ?_
    refine J_topi (b := nI (plG D 1 8 i 1)) (congrArg nI e1) ?_
    refine J_istore_6 dX7_anewOf_67 (Nat.le_of_ble_eq_true rfl) rfl ?_
    refine l_manF p q q0l q1l hv (b := min (plG D 1 8 i 2) (dl D (plG D 1 8 i 0) - 1)) (by omega) (by omega) (fun f => ?_) (by omega) _ (plG D 1 8 i 1) P rfl (by omega) rfl
    first | refine J_inc_4 dX7_anewOf_124 (Nat.le_of_ble_eq_true rfl) rfl ?_ | refine J_iinc_4 dX7_anewOf_124 rfl (Nat.le_of_ble_eq_true rfl) rfl ?_
    refine J_goto (tgt := 20) dX7_anewOf_127 (by decide) ?_
    exact ih (i + 1) _ _ _ rfl (by omega) hPP
theorem m_anewOf (p : mdAt h D tb F) (q : mps h m V) {v : Option Nat} (hv : ∀ i, v = some i → i < 2 ^ 31) : Ct X mX7_anewOf 3 [.ref 51, .int (oN v)] h (fun r h' => r = some (.int (if v = none then nI (sAnewN D) else oN (fo v (bfA D 0 (plN D 1 8))))) ∧ mdAt h' D tb F ∧ (∃ m' V', mps h' m' V') ∧ offB h h' 60 65) := by
  have h0 := p.1
  have hd : dok D := p.2.2.2.2.2.2.2.2
  refine Ct_of jmX7_anewOf [some (.ref 51), some (.int (oN v)), none, none, none, none, none] (Nat.le_of_ble_eq_true rfl) rfl ?_
  show J X RX7 cX7_anewOf 7 _ (some .int) _ 0 _ _ _
  refine J_aload_0 dX7_anewOf_0 ?_
  refine J_iconst (v := nI 0) dX7_anewOf_1 (by decide) ?_
  refine J_iconst (v := -1) dX7_anewOf_2 (by decide) ?_
  refine J_cV2 dX7_anewOf_3 jmX7_pullsOf mv_X7_169 h0 rfl (Nat.le_of_ble_eq_true rfl) (by decide) (m_pullsOf p q (l := 0) (by decide) wN8) (fun r h' q => ?_)
  obtain ⟨rfl, p2, ⟨m2, V2, Q2, q0l, -⟩, o2⟩ := q
  refine J_aload_0 dX7_anewOf_6 ?_
  refine J_iconst (v := nI 1) dX7_anewOf_7 (by decide) ?_
  refine J_iconst (v := -1) dX7_anewOf_8 (by decide) ?_
  refine J_cV2 dX7_anewOf_9 jmX7_pullsOf mv_X7_169 p2.1 rfl (Nat.le_of_ble_eq_true rfl) (by decide) (m_pullsOf p2 Q2 (l := 1) (by decide) wN8) (fun r h' q => ?_)
  obtain ⟨rfl, p3, ⟨m3, V3, Q3, q1l, z1, z2⟩, o3⟩ := q
  refine J_iconst (v := nI 0) dX7_anewOf_12 (by decide) ?_
  refine J_istore_2 dX7_anewOf_13 (Nat.le_of_ble_eq_true rfl) rfl ?_
  refine J_iconst (v := -1) dX7_anewOf_14 (by decide) ?_
  refine J_istore_3 dX7_anewOf_15 (Nat.le_of_ble_eq_true rfl) rfl ?_
  refine J_bipush (v := nI 8) dX7_anewOf_16 (by decide) ?_
  refine J_istore_4 dX7_anewOf_18 (Nat.le_of_ble_eq_true rfl) rfl ?_
  have z := l_manK (X := X) p3 Q3 (mpl_o hd q0l (by decide) (by decide) z1 z2) q1l hv (plN D 1 8) 0 [] none none rfl (by omega) rfl
  rw [show oN (fo v []) = -1 from by cases v <;> rfl] at z
  refine J_mono z ?_
  rintro r h4 ⟨e1, rfl⟩
  exact ⟨e1, p3, ⟨m3, V3, Q3⟩, o2.tr o3⟩
end
