/-! the reference's SHEETS -/
section
variable {X : Cx} {h : HF} {D : DS} {tb : Int32} {F : Nat → Nat → Int32}
theorem md_find (p : mdAt h D tb F) {f : Nat} (hf : f ≤ 5) : mdAt (hu h 51 (moB tb f)) (dSF D f) tb F := by
  obtain ⟨h0, ⟨fm, hm, hm0⟩, ⟨e0, e1, e2, e3, e4⟩, hF, ⟨fs, hfs, hfs0⟩, ⟨fl, hfl, hfl0⟩, hsh, hscr, k1, k2, k3, k4, k5, k6⟩ := p
  have m : ∀ {a : Nat} {c c' : AE}, hAt h a c → a ≠ 51 → hAt (hu h 51 c') a c := fun q r => hAt_ne q r
  have o : ∀ {c : AE} (b : Nat), b ≠ 51 → hu h 51 c b = h b := fun b hb => hu_ne hb
  exact ⟨hAt_s h0.1, ⟨fm, m hm (by omega), hm0⟩, ⟨m e0 (by omega), m e1 (by omega), m e2 (by omega), m e3 (by omega), m e4 (by omega)⟩, hF, ⟨fs, m hfs (by omega), hfs0⟩, ⟨fl, m hfl (by omega), hfl0⟩, mSh_o hsh (fun b l u => o b (by omega)), mScr_o hscr (fun b hb => o b (by omega)), k1, k2, k3, k4, hf, k6⟩
theorem m_meets (p : mdAt h D tb F) {k : Nat} : Ct X mX7_meets 0 [.ref 51, .int (nI k)] h (fun r h' => r = some (.int (fnd k)) ∧ h' = hu h 51 (moB tb k)) := by
  have h0 := p.1
  refine Ct_of jmX7_meets [some (.ref 51), some (.int (nI k))] (Nat.le_of_ble_eq_true rfl) rfl ?_
  show J X RX7 cX7_meets 2 _ (some .int) _ 0 _ _ _
  refine J_aload_0 dX7_meets_0 ?_
  refine J_iload_1 dX7_meets_1 ?_
  refine J_put dX7_meets_2 fp_X7_228 h0 (Nat.le_of_ble_eq_true rfl) rfl rfl ?_
  refine J_bipush (v := -10) dX7_meets_5 (by decide) ?_
  refine J_iload_1 dX7_meets_7 ?_
  refine J_isub dX7_meets_8 ?_
  exact J_iret dX7_meets_9 rfl (⟨rfl, rfl⟩)
theorem md_sheet (p : mdAt h D tb F) {h' : HF} {s : Nat} {q : Bool × Nat × Nat × (Nat → Int32)} (hq : q.2.1 < 3 ∧ q.2.2.1 ≤ 60) (o : ∀ b, b < 66 → h' b = h b) (m70 : ∃ f : Nat → Int32, hAt h' 70 (oA 0 60 f)) (hm : mSh h' (dSH D s q)) : mdAt h' (dSH D s q) tb F := by
  obtain ⟨h0, ⟨fm, hm0, hm1⟩, ⟨e0, e1, e2, e3, e4⟩, hF, ⟨fs, hfs, hfs0⟩, ⟨fl, hfl, hfl0⟩, hsh, hscr, k1, k2, k3, k4, k5, k6, k7, k8⟩ := p
  have m : ∀ {a : Nat} {c : AE}, hAt h a c → a < 66 → hAt h' a c := fun q r => ⟨q.1, (o _ r).trans q.2⟩
  obtain ⟨⟨f1, a1⟩, a2, ⟨f3, a3⟩, -⟩ := hscr
  refine ⟨m h0 (by omega), ⟨fm, m hm0 (by omega), hm1⟩, ⟨m e0 (by omega), m e1 (by omega), m e2 (by omega), m e3 (by omega), m e4 (by omega)⟩, hF, ⟨fs, m hfs (by omega), hfs0⟩, ⟨fl, m hfl (by omega), hfl0⟩, hm, ⟨⟨f1, m a1 (by omega)⟩, fun k hk => ?_, ⟨f3, m a3 (by omega)⟩, m70⟩, k1, k2, k3, k4, k5, k6, k7, fun j hj => ?_⟩
  · obtain ⟨f, a⟩ := a2 k hk
    exact ⟨f, m a (by omega)⟩
  · show ((if j = s then q else dsh D j).2.1 < 3 ∧ (if j = s then q else dsh D j).2.2.1 ≤ 60)
    split
    · exact hq
    · exact k8 j hj
theorem m_70 (p : mdAt h D tb F) : ∃ f : Nat → Int32, hAt h 70 (oA 0 60 f) := p.2.2.2.2.2.2.2.1.2.2.2
theorem m_shk (p : mdAt h D tb F) {s : Nat} (hs : s < 4) : (dsh D s).2.1 < 3 ∧ (dsh D s).2.2.1 ≤ 60 := p.2.2.2.2.2.2.2.2.2.2.2.2.2.2.2 s hs
theorem m_sheet_bad {s f m : Int32} (hb : ¬ ((∃ k, k < 4 ∧ s = nI k) ∧ (∃ u, u < 3 ∧ f = nI u) ∧ m ≤ nI 60)) : CtI X mX7_sheet 2 [.ref 51, .int s, .int f, .int m] h (-2) := by
  refine Ct_of jmX7_sheet [some (.ref 51), some (.int s), some (.int f), some (.int m), none] (Nat.le_of_ble_eq_true rfl) rfl ?_
  show J X RX7 cX7_sheet 5 _ (some .int) _ 0 _ _ _
  rcases ix_cases s 4 (by decide) with ⟨k, hk, rfl⟩ | hs
  · rcases ix_cases f 3 (by decide) with ⟨u, hu, rfl⟩ | hf
    · refine J_iload_1 dX7_sheet_0 ?_
      refine J_cS1i dX7_sheet_1 jmX7_isSheet ms_X7_100 (Nat.le_of_ble_eq_true rfl) (by decide) (m_sheetT hk) ?_
      refine J_if_eq (tgt := 22) dX7_sheet_4 (by decide) (fun c => absurd c (by decide)) (fun _ => ?_)
      refine J_iload_2 dX7_sheet_7 ?_
      refine J_iconst (v := nI 0) dX7_sheet_8 (by decide) ?_
      refine J_iconst (v := nI 2) dX7_sheet_9 (by decide) ?_
      refine J_cS3i dX7_sheet_10 jmX7_in ms_X7_69 (Nat.le_of_ble_eq_true rfl) (by decide) (m_inT (by omega) (by omega) (by decide)) ?_
      refine J_if_eq (tgt := 22) dX7_sheet_13 (by decide) (fun c => absurd c (by decide)) (fun _ => ?_)
      refine J_iload_3 dX7_sheet_16 ?_
      refine J_bipush (v := nI 60) dX7_sheet_17 (by decide) ?_
      refine J_icmp_le (tgt := 25) dX7_sheet_19 (by decide) (fun c => absurd c (fun z => hb ⟨⟨k, hk, rfl⟩, ⟨u, hu, rfl⟩, z⟩)) (fun _ => ?_)
      refine J_bipush (v := -2) dX7_sheet_22 (by decide) ?_
      exact J_iret dX7_sheet_24 rfl (⟨rfl, rfl⟩)
    · refine J_iload_1 dX7_sheet_0 ?_
      refine J_cS1i dX7_sheet_1 jmX7_isSheet ms_X7_100 (Nat.le_of_ble_eq_true rfl) (by decide) (m_sheetT hk) ?_
      refine J_if_eq (tgt := 22) dX7_sheet_4 (by decide) (fun c => absurd c (by decide)) (fun _ => ?_)
      refine J_iload_2 dX7_sheet_7 ?_
      refine J_iconst (v := nI 0) dX7_sheet_8 (by decide) ?_
      refine J_iconst (v := nI 2) dX7_sheet_9 (by decide) ?_
      refine J_cS3i dX7_sheet_10 jmX7_in ms_X7_69 (Nat.le_of_ble_eq_true rfl) (by decide) (m_inB (n := 2) (by decide) hf) ?_
      refine J_if_eq (tgt := 22) dX7_sheet_13 (by decide) (fun _ => ?_) (fun c => absurd (by decide) c)
      refine J_bipush (v := -2) dX7_sheet_22 (by decide) ?_
      exact J_iret dX7_sheet_24 rfl (⟨rfl, rfl⟩)
  · refine J_iload_1 dX7_sheet_0 ?_
    refine J_cS1i dX7_sheet_1 jmX7_isSheet ms_X7_100 (Nat.le_of_ble_eq_true rfl) (by decide) (m_sheetF hs) ?_
    refine J_if_eq (tgt := 22) dX7_sheet_4 (by decide) (fun _ => ?_) (fun c => absurd (by decide) c)
    refine J_bipush (v := -2) dX7_sheet_22 (by decide) ?_
    exact J_iret dX7_sheet_24 rfl (⟨rfl, rfl⟩)
theorem m_sheet_size (p : mdAt h D tb F) {s f : Nat} {m : Int32} (hs : s < 4) (hf : f < 3) (hm : m < 0) : Ct X mX7_sheet 2 [.ref 51, .int (nI s), .int (nI f), .int m] h (fun r h' => r = some (.int (fnd 5)) ∧ moAt h' (dSF D 5) ∧ offB h h' 51 71) := by
  have h0 := p.1
  have h60 : m ≤ nI 60 := by
    rw [Int32.le_iff_toInt_le, show (nI 60).toInt = 60 from by decide]
    have := Int32.lt_iff_toInt_lt.mp hm
    rw [Int32.toInt_zero] at this
    omega
  refine Ct_of jmX7_sheet [some (.ref 51), some (.int (nI s)), some (.int (nI f)), some (.int m), none] (Nat.le_of_ble_eq_true rfl) rfl ?_
  show J X RX7 cX7_sheet 5 _ (some .int) _ 0 _ _ _
  refine J_iload_1 dX7_sheet_0 ?_
  refine J_cS1i dX7_sheet_1 jmX7_isSheet ms_X7_100 (Nat.le_of_ble_eq_true rfl) (by decide) (m_sheetT hs) ?_
  refine J_if_eq (tgt := 22) dX7_sheet_4 (by decide) (fun c => absurd c (by decide)) (fun _ => ?_)
  refine J_iload_2 dX7_sheet_7 ?_
  refine J_iconst (v := nI 0) dX7_sheet_8 (by decide) ?_
  refine J_iconst (v := nI 2) dX7_sheet_9 (by decide) ?_
  refine J_cS3i dX7_sheet_10 jmX7_in ms_X7_69 (Nat.le_of_ble_eq_true rfl) (by decide) (m_inT (by omega) (by omega) (by decide)) ?_
  refine J_if_eq (tgt := 22) dX7_sheet_13 (by decide) (fun c => absurd c (by decide)) (fun _ => ?_)
  refine J_iload_3 dX7_sheet_16 ?_
  refine J_bipush (v := nI 60) dX7_sheet_17 (by decide) ?_
  refine J_icmp_le (tgt := 25) dX7_sheet_19 (by decide) (fun _ => ?_) (fun c => absurd h60 c)
  refine J_iload_3 dX7_sheet_25 ?_
  refine J_if_ge (tgt := 35) dX7_sheet_26 (by decide) (fun c => absurd c (Int32.not_le.mpr hm)) (fun _ => ?_)
  refine J_aload_0 dX7_sheet_29 ?_
  refine J_iconst (v := nI 5) dX7_sheet_30 (by decide) ?_
  refine J_cV1 dX7_sheet_31 jmX7_meets mv_X7_103 h0 rfl (Nat.le_of_ble_eq_true rfl) (by decide) (m_meets p) (fun r h' q => ?_)
  obtain ⟨rfl, rfl⟩ := q
  exact J_iret dX7_sheet_34 rfl (⟨rfl, ⟨_, _, md_find p (by decide)⟩, offB.rf.hu (by omega) (by omega)⟩)
theorem l_mzero {h : HF} {s n ff : Nat} (hs : s < 4) {f0 : Nat → Int32} {v2 : Int32} : ∀ (k i : Nat) (h1 : HF) (f : Nat → Int32), i + k = 60 → hAt h1 51 (moB tb ff) → hAt h1 69 (oA 0 240 f) → (∀ j, j < 240 → f j = if 60 * s ≤ j ∧ j < 60 * s + i then 0 else f0 j) → offB h h1 69 70 →
    J X RX7 cX7_sheet 5 2 (some .int) (fun r h' => r = some (.int (nI n)) ∧ (∃ f', hAt h' 69 (oA 0 240 f') ∧ ∀ j, j < 240 → f' j = if 60 * s ≤ j ∧ j < 60 * s + 60 then 0 else f0 j) ∧ offB h h' 69 70) 59 [some (.ref 51), some (.int (nI s)), some (.int v2), some (.int (nI n)), some (.int (nI i))] [] h1 := by
  intro k
  induction k with
  | zero =>
    intro i h1 f hi h0 h69 hf ho
    obtain rfl : i = 60 := by omega
    refine J_iload_4 dX7_sheet_59 ?_
    refine J_bipush (v := nI 60) dX7_sheet_61 (by decide) ?_
    refine J_icmp_geN (tgt := 85) dX7_sheet_63 (by decide) (by omega) (by omega) (fun _ => ?_) (fun c => absurd c (by omega))
    refine J_iload_3 dX7_sheet_85 ?_
    exact J_iret dX7_sheet_86 rfl (⟨rfl, ⟨f, h69, hf⟩, ho⟩)
  | succ k ih =>
    intro i h1 f hi h0 h69 hf ho
    refine J_iload_4 dX7_sheet_59 ?_
    refine J_bipush (v := nI 60) dX7_sheet_61 (by decide) ?_
    refine J_icmp_geN (tgt := 85) dX7_sheet_63 (by decide) (by omega) (by omega) (fun c => absurd c (by omega)) (fun _ => ?_)
    refine J_aload_0 dX7_sheet_66 ?_
    refine J_get dX7_sheet_67 fl_X7_62 h0 rfl ?_
    refine J_bipush (v := nI 60) dX7_sheet_70 (by decide) ?_
    refine J_iload_1 dX7_sheet_72 ?_
    first | refine J_imulN dX7_sheet_73 ?_ | refine J_imul dX7_sheet_73 ?_
    refine J_iload_4 dX7_sheet_74 ?_
    first | refine J_iaddN dX7_sheet_76 ?_ | refine J_iadd dX7_sheet_76 ?_
    refine J_iconst (v := nI 0) dX7_sheet_77 (by decide) ?_
    refine J_iast dX7_sheet_78 h69 rfl (by omega) (by omega) ?_
    first | refine J_inc_4 dX7_sheet_79 (Nat.le_of_ble_eq_true rfl) rfl ?_ | refine J_iinc_4 dX7_sheet_79 rfl (Nat.le_of_ble_eq_true rfl) rfl ?_
    refine J_goto (tgt := 59) dX7_sheet_82 (by decide) ?_
    refine ih (i + 1) _ _ (by omega) (hAt_ne h0 (by omega)) (hAt_s h69.1) (fun j hj => ?_) (ho.hu (by omega) (by omega))
    unfold upd
    by_cases z : j = 60 * s + i
    · rw [if_pos z, if_pos (by omega)]; rfl
    · rw [if_neg z, hf j hj]; by_cases y : 60 * s ≤ j ∧ j < 60 * s + i; (rw [if_pos y, if_pos (by omega)]); (rw [if_neg y, if_neg (by omega)])
theorem m_sheet_ok (p : mdAt h D tb F) {s f m : Nat} (hs : s < 4) (hf : f < 3) (hm : m ≤ 60) : Ct X mX7_sheet 2 [.ref 51, .int (nI s), .int (nI f), .int (nI m)] h (fun r h' => r = some (.int (nI m)) ∧ moAt h' (dSH D s (false, f, m, fun _ => 0)) ∧ offB h h' 51 71) := by
  obtain ⟨h0, -, -, -, -, -, ⟨⟨f1, a1, b1⟩, ⟨f2, a2, b2⟩, ⟨f3, a3, b3⟩, ⟨f4, a4, b4⟩⟩, -⟩ := id p
  obtain ⟨f70, a70⟩ := m_70 p
  refine Ct_of jmX7_sheet [some (.ref 51), some (.int (nI s)), some (.int (nI f)), some (.int (nI m)), none] (Nat.le_of_ble_eq_true rfl) rfl ?_
  show J X RX7 cX7_sheet 5 _ (some .int) _ 0 _ _ _
  refine J_iload_1 dX7_sheet_0 ?_
  refine J_cS1i dX7_sheet_1 jmX7_isSheet ms_X7_100 (Nat.le_of_ble_eq_true rfl) (by decide) (m_sheetT hs) ?_
  refine J_if_eq (tgt := 22) dX7_sheet_4 (by decide) (fun c => absurd c (by decide)) (fun _ => ?_)
  refine J_iload_2 dX7_sheet_7 ?_
  refine J_iconst (v := nI 0) dX7_sheet_8 (by decide) ?_
  refine J_iconst (v := nI 2) dX7_sheet_9 (by decide) ?_
  refine J_cS3i dX7_sheet_10 jmX7_in ms_X7_69 (Nat.le_of_ble_eq_true rfl) (by decide) (m_inT (by omega) (by omega) (by decide)) ?_
  refine J_if_eq (tgt := 22) dX7_sheet_13 (by decide) (fun c => absurd c (by decide)) (fun _ => ?_)
  refine J_iload_3 dX7_sheet_16 ?_
  refine J_bipush (v := nI 60) dX7_sheet_17 (by decide) ?_
  refine J_icmp_leN (tgt := 25) dX7_sheet_19 (by decide) (by omega) (by omega) (fun _ => ?_) (fun c => absurd c (by omega))
  refine J_iload_3 dX7_sheet_25 ?_
  refine J_if_geN (tgt := 35) dX7_sheet_26 (by decide) (by omega) ?_
  refine J_aload_0 dX7_sheet_35 ?_
  refine J_get dX7_sheet_36 fl_X7_52 h0 rfl ?_
  refine J_iload_1 dX7_sheet_39 ?_
  refine J_iconst (v := nI 1) dX7_sheet_40 (by decide) ?_
  refine J_zast dX7_sheet_41 a1 rfl (by omega) (by omega) rfl ?_
  refine J_aload_0 dX7_sheet_42 ?_
  refine J_get dX7_sheet_43 fl_X7_56 (hAt_ne h0 (by omega)) rfl ?_
  refine J_iload_1 dX7_sheet_46 ?_
  refine J_iload_2 dX7_sheet_47 ?_
  refine J_iast dX7_sheet_48 (hAt_ne a2 (by omega)) rfl (by omega) (by omega) ?_
  refine J_aload_0 dX7_sheet_49 ?_
  refine J_get dX7_sheet_50 fl_X7_59 (hAt_ne (hAt_ne h0 (by omega)) (by omega)) rfl ?_
  refine J_iload_1 dX7_sheet_53 ?_
  refine J_iload_3 dX7_sheet_54 ?_
  refine J_iast dX7_sheet_55 (hAt_ne (hAt_ne a3 (by omega)) (by omega)) rfl (by omega) (by omega) ?_
  refine J_iconst (v := nI 0) dX7_sheet_56 (by decide) ?_
  refine J_istore_4 dX7_sheet_57 (Nat.le_of_ble_eq_true rfl) rfl ?_
  refine J_mono (l_mzero (tb := tb) (ff := dfi D) (f0 := f4) hs 60 0 _ f4 (by omega) (hAt_ne (hAt_ne (hAt_ne h0 (by omega)) (by omega)) (by omega)) (hAt_ne (hAt_ne (hAt_ne a4 (by omega)) (by omega)) (by omega)) (fun j hj => (if_neg (by omega)).symm) offB.rf) ?_
  rintro r h' ⟨e1, ⟨f', q1, q2⟩, o⟩
  have o1 : offB h h' 66 70 := (((offB.rf.hu (by omega) (by omega)).hu (by omega) (by omega)).hu (by omega) (by omega)).tr (o.wide (by omega) (by omega))
  refine ⟨e1, ⟨tb, F, md_sheet p ⟨hf, hm⟩ (fun b hb => o1 b (by omega)) ⟨f70, hAt_off a70 o1 (by omega)⟩ ?_⟩, o1.wide (by omega) (by omega)⟩
  have dh : ∀ j, dsh (dSH D s (false, f, m, fun _ => 0)) j = if j = s then (false, f, m, fun _ => 0) else dsh D j := fun j => rfl
  refine ⟨⟨_, hAt_off (hAt_ne (hAt_ne (hAt_s a1.1) (by omega)) (by omega)) o (by omega), fun j hj => ?_⟩, ⟨_, hAt_off (hAt_ne (hAt_s a2.1) (by omega)) o (by omega), fun j hj => ?_⟩, ⟨_, hAt_off (hAt_s a3.1) o (by omega), fun j hj => ?_⟩, ⟨f', q1, fun j k hj hk => ?_⟩⟩
  · rw [dh j]; unfold upd; split; rfl; exact b1 j hj
  · rw [dh j]; unfold upd; split; rfl; exact b2 j hj
  · rw [dh j]; unfold upd; split; rfl; exact b3 j hj
  · rw [dh j, q2 _ (by omega)]; by_cases z : j = s; (rw [if_pos z, if_pos (by omega)]); (rw [if_neg z, if_neg (by omega)]; exact b4 j k hj hk)
theorem m_lose_bad {s : Int32} (hb : ¬ (0 ≤ s ∧ s < nI 4)) : CtI X mX7_lose 2 [.ref 51, .int s] h (-2) := by
  refine Ct_of jmX7_lose [some (.ref 51), some (.int s)] (Nat.le_of_ble_eq_true rfl) rfl ?_
  show J X RX7 cX7_lose 2 _ (some .int) _ 0 _ _ _
  refine J_iload_1 dX7_lose_0 ?_
  refine J_cS1i dX7_lose_1 jmX7_isSheet ms_X7_100 (Nat.le_of_ble_eq_true rfl) (by decide) (m_sheetF hb) ?_
  refine J_if_ne (tgt := 10) dX7_lose_4 (by decide) (fun c => absurd c (by decide)) (fun _ => ?_)
  refine J_bipush (v := -2) dX7_lose_7 (by decide) ?_
  exact J_iret dX7_lose_9 rfl (⟨rfl, rfl⟩)
theorem m_lose_null (p : mdAt h D tb F) {s : Nat} (hs : s < 4) (hq : (dsh D s).1 = true) : Ct X mX7_lose 2 [.ref 51, .int (nI s)] h (fun r h' => r = some (.int (fnd 1)) ∧ moAt h' (dSF D 1) ∧ offB h h' 51 71) := by
  obtain ⟨h0, -, -, -, -, -, ⟨⟨f1, a1, b1⟩, -⟩, -⟩ := id p
  refine Ct_of jmX7_lose [some (.ref 51), some (.int (nI s))] (Nat.le_of_ble_eq_true rfl) rfl ?_
  show J X RX7 cX7_lose 2 _ (some .int) _ 0 _ _ _
  refine J_iload_1 dX7_lose_0 ?_
  refine J_cS1i dX7_lose_1 jmX7_isSheet ms_X7_100 (Nat.le_of_ble_eq_true rfl) (by decide) (m_sheetT hs) ?_
  refine J_if_ne (tgt := 10) dX7_lose_4 (by decide) (fun _ => ?_) (fun c => absurd c (by decide))
  refine J_aload_0 dX7_lose_10 ?_
  refine J_get dX7_lose_11 fl_X7_52 h0 rfl ?_
  refine J_iload_1 dX7_lose_14 ?_
  refine J_zald dX7_lose_15 a1 rfl (by omega) (by omega) ?_
  refine J_topi (b := 0) ((b1 s hs).trans (if_pos hq)) ?_
  refine J_if_ne (tgt := 25) dX7_lose_16 (by decide) (fun c => absurd c (by decide)) (fun _ => ?_)
  refine J_aload_0 dX7_lose_19 ?_
  refine J_iconst (v := nI 1) dX7_lose_20 (by decide) ?_
  refine J_cV1 dX7_lose_21 jmX7_meets mv_X7_103 h0 rfl (Nat.le_of_ble_eq_true rfl) (by decide) (m_meets p) (fun r h' q => ?_)
  obtain ⟨rfl, rfl⟩ := q
  exact J_iret dX7_lose_24 rfl (⟨rfl, ⟨_, _, md_find p (by decide)⟩, offB.rf.hu (by omega) (by omega)⟩)
theorem m_lose_ok (p : mdAt h D tb F) {s : Nat} (hs : s < 4) (hq : (dsh D s).1 = false) : Ct X mX7_lose 2 [.ref 51, .int (nI s)] h (fun r h' => r = some (.int (nI (dsh D s).2.2.1)) ∧ moAt h' (dSH D s (true, (dsh D s).2)) ∧ offB h h' 51 71) := by
  obtain ⟨h0, -, -, -, -, -, ⟨⟨f1, a1, b1⟩, ⟨f2, a2, b2⟩, ⟨f3, a3, b3⟩, ⟨f4, a4, b4⟩⟩, -⟩ := id p
  obtain ⟨f70, a70⟩ := m_70 p
  rw [← b3 s hs]
  have fin : mdAt (hu h 66 (oA 1 4 (upd f1 s (nI 0)))) (dSH D s (true, (dsh D s).2)) tb F := by
    refine md_sheet p (m_shk p hs) (fun b hb => hu_ne (by omega)) ⟨f70, hAt_ne a70 (by omega)⟩ ?_
    have dh : ∀ j, dsh (dSH D s (true, (dsh D s).2)) j = if j = s then (true, (dsh D s).2) else dsh D j := fun j => rfl
    refine ⟨⟨_, hAt_s a1.1, fun j hj => ?_⟩, ⟨f2, hAt_ne a2 (by omega), fun j hj => ?_⟩, ⟨f3, hAt_ne a3 (by omega), fun j hj => ?_⟩, ⟨f4, hAt_ne a4 (by omega), fun j k hj hk => ?_⟩⟩
    · rw [dh j]; unfold upd; split; rfl; exact b1 j hj
    · rw [dh j, b2 j hj]; split; (rename_i z; rw [z]); rfl
    · rw [dh j, b3 j hj]; split; (rename_i z; rw [z]); rfl
    · rw [dh j, b4 j k hj hk]; split; (rename_i z; rw [z]); rfl
  refine Ct_of jmX7_lose [some (.ref 51), some (.int (nI s))] (Nat.le_of_ble_eq_true rfl) rfl ?_
  show J X RX7 cX7_lose 2 _ (some .int) _ 0 _ _ _
  refine J_iload_1 dX7_lose_0 ?_
  refine J_cS1i dX7_lose_1 jmX7_isSheet ms_X7_100 (Nat.le_of_ble_eq_true rfl) (by decide) (m_sheetT hs) ?_
  refine J_if_ne (tgt := 10) dX7_lose_4 (by decide) (fun _ => ?_) (fun c => absurd c (by decide))
  refine J_aload_0 dX7_lose_10 ?_
  refine J_get dX7_lose_11 fl_X7_52 h0 rfl ?_
  refine J_iload_1 dX7_lose_14 ?_
  refine J_zald dX7_lose_15 a1 rfl (by omega) (by omega) ?_
  refine J_topi (b := 1) ((b1 s hs).trans (if_neg (by rw [hq]; decide))) ?_
  refine J_if_ne (tgt := 25) dX7_lose_16 (by decide) (fun _ => ?_) (fun c => absurd c (by decide))
  refine J_aload_0 dX7_lose_25 ?_
  refine J_get dX7_lose_26 fl_X7_52 h0 rfl ?_
  refine J_iload_1 dX7_lose_29 ?_
  refine J_iconst (v := nI 0) dX7_lose_30 (by decide) ?_
  refine J_zast dX7_lose_31 a1 rfl (by omega) (by omega) rfl ?_
  refine J_aload_0 dX7_lose_32 ?_
  refine J_get dX7_lose_33 fl_X7_59 (hAt_ne h0 (by omega)) rfl ?_
  refine J_iload_1 dX7_lose_36 ?_
  refine J_iald dX7_lose_37 (hAt_ne a3 (by omega)) rfl (by omega) (by omega) ?_
  exact J_iret dX7_lose_38 rfl (⟨rfl, ⟨_, _, fin⟩, offB.rf.hu (by omega) (by omega)⟩)
theorem m_lacks (p : mdAt h D tb F) {s w : Nat} (hs : s < 4) (hw : w < 3) {i : Int32} : CtI X mX7_lacks 1 [.ref 51, .int (nI s), .int (nI w), .int i] h (nI (sFault D s w i)) := by
  obtain ⟨h0, -, -, -, -, -, ⟨⟨f1, a1, b1⟩, ⟨f2, a2, b2⟩, ⟨f3, a3, b3⟩, -⟩, -⟩ := id p
  have hk := m_shk p hs
  refine Ct_of jmX7_lacks [some (.ref 51), some (.int (nI s)), some (.int (nI w)), some (.int i)] (Nat.le_of_ble_eq_true rfl) rfl ?_
  show J X RX7 cX7_lacks 4 _ (some .int) _ 0 _ _ _
  by_cases hq : (dsh D s).1 = true
  · refine J_aload_0 dX7_lacks_0 ?_
    refine J_get dX7_lacks_1 fl_X7_52 h0 rfl ?_
    refine J_iload_1 dX7_lacks_4 ?_
    refine J_zald dX7_lacks_5 a1 rfl (by omega) (by omega) ?_
    refine J_topi (b := 0) ((b1 s hs).trans (if_pos hq)) ?_
    refine J_if_ne (tgt := 13) dX7_lacks_6 (by decide) (fun c => absurd c (by decide)) (fun _ => ?_)
    refine J_iconst (v := nI 1) dX7_lacks_9 (by decide) ?_
    refine J_goto (tgt := 48) dX7_lacks_10 (by decide) ?_
    exact J_iret dX7_lacks_48 rfl (⟨by unfold sFault shFault; rw [if_pos hq], rfl⟩)
  · have hin : CtI X mX7_in 0 [.int i, .int (nI 0), .int (nI (dsh D s).2.2.1 - nI 1)] h (if 0 ≤ i ∧ i < nI (dsh D s).2.2.1 then 1 else 0) := by
      by_cases hc : 0 ≤ i ∧ i < nI (dsh D s).2.2.1
      · rw [if_pos hc]
        rcases ix_cases i (dsh D s).2.2.1 (by omega) with ⟨j, hj, rfl⟩ | z
        · rw [pk_sub (by omega)]
          exact m_inT (by omega) (by omega) (by omega)
        · exact absurd hc z
      · rw [if_neg hc]
        refine m_inF (fun z => ?_)
        by_cases z0 : (dsh D s).2.2.1 = 0
        · rw [z0, show nI 0 - nI 1 = (-1 : Int32) from by decide] at z
          have q1 := Int32.le_iff_toInt_le.mp z.1
          have q2 := Int32.le_iff_toInt_le.mp z.2
          rw [show (nI 0).toInt = 0 from by decide] at q1
          rw [show (-1 : Int32).toInt = -1 from by decide] at q2
          omega
        · rw [pk_sub (by omega)] at z
          have z := (in_lt (n := (dsh D s).2.2.1 - 1) (by omega)).mp z
          rw [show (dsh D s).2.2.1 - 1 + 1 = (dsh D s).2.2.1 by omega] at z
          exact hc z
    refine J_aload_0 dX7_lacks_0 ?_
    refine J_get dX7_lacks_1 fl_X7_52 h0 rfl ?_
    refine J_iload_1 dX7_lacks_4 ?_
    refine J_zald dX7_lacks_5 a1 rfl (by omega) (by omega) ?_
    refine J_topi (b := 1) ((b1 s hs).trans (if_neg hq)) ?_
    refine J_if_ne (tgt := 13) dX7_lacks_6 (by decide) (fun _ => ?_) (fun c => absurd c (by decide))
    refine J_aload_0 dX7_lacks_13 ?_
    refine J_get dX7_lacks_14 fl_X7_56 h0 rfl ?_
    refine J_iload_1 dX7_lacks_17 ?_
    refine J_iald dX7_lacks_18 a2 rfl (by omega) (by omega) ?_
    refine J_topi (b := nI (dsh D s).2.1) (b2 s hs) ?_
    refine J_iload_2 dX7_lacks_19 ?_
    first | refine J_icmp_eqN (tgt := 27) dX7_lacks_20 (by decide) (by omega) (by omega) (fun c20 => ?_) (fun c20 => ?_) | refine J_icmp_eq (tgt := 27) dX7_lacks_20 (by decide) (fun c20 => ?_) (fun c20 => ?_)
    · refine J_iload_3 dX7_lacks_27 ?_
      refine J_iconst (v := nI 0) dX7_lacks_28 (by decide) ?_
      refine J_aload_0 dX7_lacks_29 ?_
      refine J_get dX7_lacks_30 fl_X7_59 h0 rfl ?_
      refine J_iload_1 dX7_lacks_33 ?_
      refine J_iald dX7_lacks_34 a3 rfl (by omega) (by omega) ?_
      refine J_topi (b := nI (dsh D s).2.2.1) (b3 s hs) ?_
      refine J_iconst (v := nI 1) dX7_lacks_35 (by decide) ?_
      refine J_isub dX7_lacks_36 ?_
      refine J_cS3i dX7_lacks_37 jmX7_in ms_X7_69 (Nat.le_of_ble_eq_true rfl) (by decide) (hin) ?_
      refine J_topi (b := bI (0 ≤ i ∧ i < nI (dsh D s).2.2.1)) (rfl) ?_
      first | refine J_if_eqB (tgt := 47) dX7_lacks_40 (by decide) (fun c40 => ?_) (fun c40 => ?_) | refine J_if_eqN (tgt := 47) dX7_lacks_40 (by decide) (by omega) (fun c40 => ?_) (fun c40 => ?_) | refine J_if_eq (tgt := 47) dX7_lacks_40 (by decide) (fun c40 => ?_) (fun c40 => ?_)
      · refine J_iconst (v := nI 2) dX7_lacks_47 (by decide) ?_
        exact J_iret dX7_lacks_48 rfl (⟨by unfold sFault shFault; rw [if_neg hq]; first | rw [if_pos c20] | rw [if_neg (fun z => z c20), if_pos c40] | rw [if_neg (fun z => z c20), if_neg c40], rfl⟩)
      · refine J_iconst (v := nI 0) dX7_lacks_43 (by decide) ?_
        refine J_goto (tgt := 48) dX7_lacks_44 (by decide) ?_
        exact J_iret dX7_lacks_48 rfl (⟨by unfold sFault shFault; rw [if_neg hq]; first | rw [if_pos c20] | rw [if_neg (fun z => z c20), if_pos c40] | rw [if_neg (fun z => z c20), if_neg c40], rfl⟩)
    · refine J_iconst (v := nI 3) dX7_lacks_23 (by decide) ?_
      refine J_goto (tgt := 48) dX7_lacks_24 (by decide) ?_
      exact J_iret dX7_lacks_48 rfl (⟨by unfold sFault shFault; rw [if_neg hq]; first | rw [if_pos c20] | rw [if_neg (fun z => z c20), if_pos c40] | rw [if_neg (fun z => z c20), if_neg c40], rfl⟩)
end
