section
variable {X : Cx} {h : HF} {D : DS} {tb : Int32} {F : Nat → Nat → Int32}
theorem jt0_v {w : Nat} (hw : w < 3) : jt0 w = nI 2 ∧ w = 0 ∨ jt0 w = nI 500 ∧ 0 < w := by
  rcases (show w = 0 ∨ w = 1 ∨ w = 2 by omega) with rfl | rfl | rfl
  · exact Or.inl ⟨rfl, rfl⟩
  · exact Or.inr ⟨rfl, by decide⟩
  · exact Or.inr ⟨rfl, by decide⟩
theorem m_isSet {w : Nat} (hw : w < 3) {v : Int32} : CtI X mX7_isSetting 1 [.int (nI w), .int v] h (if nI 0 ≤ v ∧ v ≤ jt0 w then 1 else 0) := by
  refine Ct_of jmX7_isSetting [some (.int (nI w)), some (.int v)] (Nat.le_of_ble_eq_true rfl) rfl ?_
  show J X RX7 cX7_isSetting 2 _ (some .boolean) _ 0 _ _ _
  rcases jt0_v hw with ⟨e, rfl⟩ | ⟨e, h0⟩
  · refine J_iload_0 dX7_isSetting_0 ?_
    refine J_if_neN (tgt := 13) dX7_isSetting_1 (by decide) (by omega) (fun c => absurd c (by omega)) (fun _ => ?_)
    refine J_iload_1 dX7_isSetting_4 ?_
    refine J_iconst (v := nI 0) dX7_isSetting_5 (by decide) ?_
    refine J_iconst (v := nI 2) dX7_isSetting_6 (by decide) ?_
    refine J_cS3i dX7_isSetting_7 jmX7_in ms_X7_69 (Nat.le_of_ble_eq_true rfl) (by decide) (m_in) ?_
    refine J_goto (tgt := 38) dX7_isSetting_10 (by decide) ?_
    exact J_zret dX7_isSetting_38 rfl (by first | exact Or.inl rfl | exact Or.inr rfl | exact bI_01 _) (⟨rfl, rfl⟩)
  · rw [e]
    refine J_iload_0 dX7_isSetting_0 ?_
    refine J_if_neN (tgt := 13) dX7_isSetting_1 (by decide) (by omega) (fun _ => ?_) (fun c => absurd c (by omega))
    refine J_iload_0 dX7_isSetting_13 ?_
    refine J_iconst (v := nI 1) dX7_isSetting_14 (by decide) ?_
    refine J_iconst (v := nI 2) dX7_isSetting_15 (by decide) ?_
    refine J_cS3i dX7_isSetting_16 jmX7_in ms_X7_69 (Nat.le_of_ble_eq_true rfl) (by decide) (m_inT (by omega) (by omega) (by decide)) ?_
    refine J_if_eq (tgt := 37) dX7_isSetting_19 (by decide) (fun c => absurd c (by decide)) (fun _ => ?_)
    refine J_iload_1 dX7_isSetting_22 ?_
    refine J_iconst (v := nI 0) dX7_isSetting_23 (by decide) ?_
    refine J_sipush (v := nI 500) dX7_isSetting_24 (by decide) ?_
    refine J_cS3i dX7_isSetting_27 jmX7_in ms_X7_69 (Nat.le_of_ble_eq_true rfl) (by decide) (m_in) ?_
    refine J_topi (b := bI (nI 0 ≤ v ∧ v ≤ nI 500)) (rfl) ?_
    first | refine J_if_eqB (tgt := 37) dX7_isSetting_30 (by decide) (fun c30 => ?_) (fun c30 => ?_) | refine J_if_eqN (tgt := 37) dX7_isSetting_30 (by decide) (by omega) (fun c30 => ?_) (fun c30 => ?_) | refine J_if_eq (tgt := 37) dX7_isSetting_30 (by decide) (fun c30 => ?_) (fun c30 => ?_)
    · have e : (if nI 0 ≤ v ∧ v ≤ nI 500 then (1 : Int32) else 0) = 0 := if_neg c30
      refine J_iconst (v := nI 0) dX7_isSetting_37 (by decide) ?_
      exact J_zret dX7_isSetting_38 rfl (by first | exact Or.inl rfl | exact Or.inr rfl | exact bI_01 _) (⟨by rw [e]; rfl, rfl⟩)
    · refine J_iconst (v := nI 1) dX7_isSetting_33 (by decide) ?_
      have e : (if nI 0 ≤ v ∧ v ≤ nI 500 then (1 : Int32) else 0) = 1 := if_pos c30
      refine J_goto (tgt := 38) dX7_isSetting_34 (by decide) ?_
      exact J_zret dX7_isSetting_38 rfl (by first | exact Or.inl rfl | exact Or.inr rfl | exact bI_01 _) (⟨by rw [e]; rfl, rfl⟩)
theorem m_isSetNo {w v : Int32} (hw : ¬ (0 ≤ w ∧ w < nI 3)) : CtI X mX7_isSetting 1 [.int w, .int v] h 0 := by
  have h0 : ¬ w = 0 := by rintro rfl; exact hw (by decide)
  have h1 : ¬ (nI 1 ≤ w ∧ w ≤ nI 2) := fun z => hw ((in_lt (n := 2) (by decide)).mp ⟨by rw [Int32.le_iff_toInt_le] at z ⊢; rw [show (nI 1).toInt = 1 from by decide] at z; rw [show (nI 0).toInt = 0 from by decide]; omega, z.2⟩)
  refine Ct_of jmX7_isSetting [some (.int w), some (.int v)] (Nat.le_of_ble_eq_true rfl) rfl ?_
  show J X RX7 cX7_isSetting 2 _ (some .boolean) _ 0 _ _ _
  refine J_iload_0 dX7_isSetting_0 ?_
  refine J_if_ne (tgt := 13) dX7_isSetting_1 (by decide) (fun _ => ?_) (fun c => absurd c h0)
  refine J_iload_0 dX7_isSetting_13 ?_
  refine J_iconst (v := nI 1) dX7_isSetting_14 (by decide) ?_
  refine J_iconst (v := nI 2) dX7_isSetting_15 (by decide) ?_
  refine J_cS3i dX7_isSetting_16 jmX7_in ms_X7_69 (Nat.le_of_ble_eq_true rfl) (by decide) (m_inF h1) ?_
  refine J_if_eq (tgt := 37) dX7_isSetting_19 (by decide) (fun _ => ?_) (fun c => absurd (by decide) c)
  refine J_iconst (v := nI 0) dX7_isSetting_37 (by decide) ?_
  exact J_zret dX7_isSetting_38 rfl (by first | exact Or.inl rfl | exact Or.inr rfl | exact bI_01 _) (⟨rfl, rfl⟩)
theorem m_set_bad {w v : Int32} (hb : ¬ ∃ j, j < 3 ∧ w = nI j ∧ 0 ≤ v ∧ v ≤ jt0 j) : CtI X mX7_set 2 [.ref 51, .int w, .int v] h (-2) := by
  have hs : CtI X mX7_isSetting 1 [.int w, .int v] h 0 := by
    rcases ix_cases w 3 (by decide) with ⟨j, hj, rfl⟩ | hw
    · have z := m_isSet (X := X) (h := h) (v := v) hj
      rw [if_neg (fun z => hb ⟨j, hj, rfl, z.1, z.2⟩)] at z
      exact z
    · exact m_isSetNo hw
  refine Ct_of jmX7_set [some (.ref 51), some (.int w), some (.int v), none] (Nat.le_of_ble_eq_true rfl) rfl ?_
  show J X RX7 cX7_set 4 _ (some .int) _ 0 _ _ _
  refine J_iload_1 dX7_set_0 ?_
  refine J_iload_2 dX7_set_1 ?_
  refine J_cS2i dX7_set_2 jmX7_isSetting ms_X7_92 (Nat.le_of_ble_eq_true rfl) (by decide) (hs) ?_
  refine J_if_ne (tgt := 11) dX7_set_5 (by decide) (fun c => absurd c (by decide)) (fun _ => ?_)
  refine J_bipush (v := -2) dX7_set_8 (by decide) ?_
  exact J_iret dX7_set_10 rfl (⟨rfl, rfl⟩)
theorem md_set (p : mdAt h D tb F) {f : Nat → Int32} {w v : Nat} (hf : ∀ j, j < 3 → f j = nI (dst D j)) (hv : dst (dSS D w v) 0 < 3 ∧ dst (dSS D w v) 1 ≤ 500 ∧ dst (dSS D w v) 2 ≤ 500) : mdAt (hu h 58 (oA 0 3 (upd f w (nI v)))) (dSS D w v) tb F := by
  obtain ⟨h0, ⟨fm, hm, hm0⟩, ⟨e0, e1, e2, e3, e4⟩, hF, ⟨fs, hfs, hfs0⟩, ⟨fl, hfl, hfl0⟩, hsh, hscr, k1, k2, k3, k4⟩ := p
  have o : ∀ {c : AE} (b : Nat), b ≠ 58 → hu h 58 c b = h b := fun b hb => hu_ne hb
  have m : ∀ {a : Nat} {c c' : AE}, hAt h a c → a ≠ 58 → hAt (hu h 58 c') a c := fun q r => hAt_ne q r
  refine ⟨m h0 (by omega), ⟨fm, m hm (by omega), hm0⟩, ⟨m e0 (by omega), m e1 (by omega), m e2 (by omega), m e3 (by omega), m e4 (by omega)⟩, hF, ⟨_, hAt_s hfs.1, fun j hj => ?_⟩, ⟨fl, m hfl (by omega), hfl0⟩, mSh_o hsh (fun b l u => o b (by omega)), mScr_o hscr (fun b hb => o b (by omega)), hv.1, hv.2.1, hv.2.2, k4⟩
  unfold upd dst dSS
  dsimp only
  split
  · rfl
  · exact hf j hj
theorem m_set_ok (p : mdAt h D tb F) {w v : Nat} (hw : w < 3) (hv0 : v < 2 ^ 31) (hv : nI v ≤ jt0 w) (hv3 : dst (dSS D w v) 0 < 3 ∧ dst (dSS D w v) 1 ≤ 500 ∧ dst (dSS D w v) 2 ≤ 500) : Ct X mX7_set 2 [.ref 51, .int (nI w), .int (nI v)] h (fun r h' => r = some (.int (nI (dst D w))) ∧ moAt h' (dSS D w v) ∧ offB h h' 51 71) := by
  obtain ⟨h0, -, -, -, ⟨fs, hfs, hfs0⟩, -⟩ := id p
  rw [← hfs0 w hw]
  have hs := m_isSet (X := X) (h := h) (v := nI v) hw
  rw [if_pos ⟨nI_pos' hv0, hv⟩] at hs
  refine Ct_of jmX7_set [some (.ref 51), some (.int (nI w)), some (.int (nI v)), none] (Nat.le_of_ble_eq_true rfl) rfl ?_
  show J X RX7 cX7_set 4 _ (some .int) _ 0 _ _ _
  refine J_iload_1 dX7_set_0 ?_
  refine J_iload_2 dX7_set_1 ?_
  refine J_cS2i dX7_set_2 jmX7_isSetting ms_X7_92 (Nat.le_of_ble_eq_true rfl) (by decide) (hs) ?_
  refine J_if_ne (tgt := 11) dX7_set_5 (by decide) (fun _ => ?_) (fun c => absurd c (by decide))
  refine J_aload_0 dX7_set_11 ?_
  refine J_get dX7_set_12 fl_X7_28 h0 rfl ?_
  refine J_iload_1 dX7_set_15 ?_
  refine J_iald dX7_set_16 hfs rfl (by omega) (by omega) ?_
  refine J_istore_3 dX7_set_17 (Nat.le_of_ble_eq_true rfl) rfl ?_
  refine J_aload_0 dX7_set_18 ?_
  refine J_get dX7_set_19 fl_X7_28 h0 rfl ?_
  refine J_iload_1 dX7_set_22 ?_
  refine J_iload_2 dX7_set_23 ?_
  refine J_iast dX7_set_24 hfs rfl (by omega) (by omega) ?_
  refine J_iload_3 dX7_set_25 ?_
  exact J_iret dX7_set_26 rfl (⟨rfl, ⟨tb, F, md_set p hfs0 hv3⟩, offB.rf.hu (by omega) (by omega)⟩)
theorem m_reel_bad {w v : Int32} (hb : ¬ ∃ j, j < 6 ∧ w = nI j ∧ nI 1 ≤ v ∧ v ≤ nI 200000) : CtI X mX7_reel 2 [.ref 51, .int w, .int v] h (-2) := by
  refine Ct_of jmX7_reel [some (.ref 51), some (.int w), some (.int v), none] (Nat.le_of_ble_eq_true rfl) rfl ?_
  show J X RX7 cX7_reel 4 _ (some .int) _ 0 _ _ _
  rcases ix_cases w 6 (by decide) with ⟨j, hj, rfl⟩ | hw
  · refine J_iload_1 dX7_reel_0 ?_
    refine J_cS1i dX7_reel_1 jmX7_isReel ms_X7_74 (Nat.le_of_ble_eq_true rfl) (by decide) (m_reelT hj) ?_
    refine J_if_eq (tgt := 17) dX7_reel_4 (by decide) (fun c => absurd c (by decide)) (fun _ => ?_)
    refine J_iload_2 dX7_reel_7 ?_
    refine J_iconst (v := nI 1) dX7_reel_8 (by decide) ?_
    refine J_ldc dX7_reel_9 kc_X7_95 ?_
    refine J_cS3i dX7_reel_11 jmX7_in ms_X7_69 (Nat.le_of_ble_eq_true rfl) (by decide) (m_inF (fun z => hb ⟨j, hj, rfl, z⟩)) ?_
    refine J_if_ne (tgt := 20) dX7_reel_14 (by decide) (fun c => absurd c (by decide)) (fun _ => ?_)
    refine J_bipush (v := -2) dX7_reel_17 (by decide) ?_
    exact J_iret dX7_reel_19 rfl (⟨rfl, rfl⟩)
  · refine J_iload_1 dX7_reel_0 ?_
    refine J_cS1i dX7_reel_1 jmX7_isReel ms_X7_74 (Nat.le_of_ble_eq_true rfl) (by decide) (m_reelF hw) ?_
    refine J_if_eq (tgt := 17) dX7_reel_4 (by decide) (fun _ => ?_) (fun c => absurd (by decide) c)
    refine J_bipush (v := -2) dX7_reel_17 (by decide) ?_
    exact J_iret dX7_reel_19 rfl (⟨rfl, rfl⟩)
theorem md_len (p : mdAt h D tb F) {f : Nat → Int32} {w v : Nat} (hf : ∀ j, j < 6 → f j = nI (dl D j)) (hv : 1 ≤ v ∧ v ≤ 200000) : mdAt (hu h 59 (oA 0 6 (upd f w (nI v)))) (dSL D w v) tb F := by
  obtain ⟨h0, ⟨fm, hm, hm0⟩, ⟨e0, e1, e2, e3, e4⟩, hF, ⟨fs, hfs, hfs0⟩, ⟨fl, hfl, hfl0⟩, hsh, hscr, k1, k2, k3, k4, k5⟩ := p
  have o : ∀ {c : AE} (b : Nat), b ≠ 59 → hu h 59 c b = h b := fun b hb => hu_ne hb
  have m : ∀ {a : Nat} {c c' : AE}, hAt h a c → a ≠ 59 → hAt (hu h 59 c') a c := fun q r => hAt_ne q r
  refine ⟨m h0 (by omega), ⟨fm, m hm (by omega), hm0⟩, ⟨m e0 (by omega), m e1 (by omega), m e2 (by omega), m e3 (by omega), m e4 (by omega)⟩, hF, ⟨fs, m hfs (by omega), hfs0⟩, ⟨_, hAt_s hfl.1, fun j hj => ?_⟩, mSh_o hsh (fun b l u => o b (by omega)), mScr_o hscr (fun b hb => o b (by omega)), k1, k2, k3, fun r hr => ?_, k5⟩
  · unfold upd dl dSL
    dsimp only
    split
    · rfl
    · exact hf j hj
  · unfold dl dSL
    dsimp only
    split
    · exact hv
    · exact k4 r hr
theorem m_reel_ok (p : mdAt h D tb F) {w v : Nat} (hw : w < 6) (hv : 1 ≤ v ∧ v ≤ 200000) : Ct X mX7_reel 2 [.ref 51, .int (nI w), .int (nI v)] h (fun r h' => r = some (.int (nI (dl D w))) ∧ moAt h' (dSL D w v) ∧ offB h h' 51 71) := by
  obtain ⟨h0, -, -, -, -, ⟨fl, hfl, hfl0⟩, -⟩ := id p
  rw [← hfl0 w hw]
  refine Ct_of jmX7_reel [some (.ref 51), some (.int (nI w)), some (.int (nI v)), none] (Nat.le_of_ble_eq_true rfl) rfl ?_
  show J X RX7 cX7_reel 4 _ (some .int) _ 0 _ _ _
  refine J_iload_1 dX7_reel_0 ?_
  refine J_cS1i dX7_reel_1 jmX7_isReel ms_X7_74 (Nat.le_of_ble_eq_true rfl) (by decide) (m_reelT hw) ?_
  refine J_if_eq (tgt := 17) dX7_reel_4 (by decide) (fun c => absurd c (by decide)) (fun _ => ?_)
  refine J_iload_2 dX7_reel_7 ?_
  refine J_iconst (v := nI 1) dX7_reel_8 (by decide) ?_
  refine J_ldc dX7_reel_9 kc_X7_95 ?_
  refine J_cS3i dX7_reel_11 jmX7_in ms_X7_69 (Nat.le_of_ble_eq_true rfl) (by decide) (m_inT hv.1 hv.2 (by decide)) ?_
  refine J_if_ne (tgt := 20) dX7_reel_14 (by decide) (fun _ => ?_) (fun c => absurd c (by decide))
  refine J_aload_0 dX7_reel_20 ?_
  refine J_get dX7_reel_21 fl_X7_31 h0 rfl ?_
  refine J_iload_1 dX7_reel_24 ?_
  refine J_iald dX7_reel_25 hfl rfl (by omega) (by omega) ?_
  refine J_istore_3 dX7_reel_26 (Nat.le_of_ble_eq_true rfl) rfl ?_
  refine J_aload_0 dX7_reel_27 ?_
  refine J_get dX7_reel_28 fl_X7_31 h0 rfl ?_
  refine J_iload_1 dX7_reel_31 ?_
  refine J_iload_2 dX7_reel_32 ?_
  refine J_iast dX7_reel_33 hfl rfl (by omega) (by omega) ?_
  refine J_iload_3 dX7_reel_34 ?_
  exact J_iret dX7_reel_35 rfl (⟨rfl, ⟨tb, F, md_len p hfl0 hv⟩, offB.rf.hu (by omega) (by omega)⟩)
theorem l_swaps {h : HF} {a : Nat} {f0 : Nat → Int32} : ∀ (k i : Nat) (h1 : HF) (f : Nat → Int32) (o2 : Option Value), i + k = 8 → hAt h1 a (oA 0 16 f) → (∀ j, j < i → f j = f0 (8 + j) ∧ f (8 + j) = f0 j) → (∀ j, i ≤ j → j < 8 → f j = f0 j ∧ f (8 + j) = f0 (8 + j)) → offB h h1 a (a + 1) →
    J X RX7 cX7_swaps 3 0 none (fun r h' => r = none ∧ (∃ f', hAt h' a (oA 0 16 f') ∧ ∀ j, j < 8 → f' j = f0 (8 + j) ∧ f' (8 + j) = f0 j) ∧ offB h h' a (a + 1)) 2 [some (.ref a), some (.int (nI i)), o2] [] h1 := by
  intro k
  induction k with
  | zero =>
    intro i h1 f o2 hi hc h1' h2' ho
    refine J_iload_1 dX7_swaps_2 ?_
    refine J_bipush (v := nI 8) dX7_swaps_3 (by decide) ?_
    refine J_icmp_geN (tgt := 34) dX7_swaps_5 (by decide) (by omega) (by omega) (fun _ => ?_) (fun c => absurd c (by omega))
    exact J_vret dX7_swaps_34 rfl (⟨rfl, ⟨f, hc, fun j hj => h1' j (by omega)⟩, ho⟩)
  | succ k ih =>
    intro i h1 f o2 hi hc h1' h2' ho
    refine J_iload_1 dX7_swaps_2 ?_
    refine J_bipush (v := nI 8) dX7_swaps_3 (by decide) ?_
    refine J_icmp_geN (tgt := 34) dX7_swaps_5 (by decide) (by omega) (by omega) (fun c => absurd c (by omega)) (fun _ => ?_)
    refine J_aload_0 dX7_swaps_8 ?_
    refine J_iload_1 dX7_swaps_9 ?_
    refine J_iald dX7_swaps_10 hc rfl (by omega) (by omega) ?_
    refine J_istore_2 dX7_swaps_11 (Nat.le_of_ble_eq_true rfl) rfl ?_
    refine J_aload_0 dX7_swaps_12 ?_
    refine J_iload_1 dX7_swaps_13 ?_
    refine J_aload_0 dX7_swaps_14 ?_
    refine J_bipush (v := nI 8) dX7_swaps_15 (by decide) ?_
    refine J_iload_1 dX7_swaps_17 ?_
    first | refine J_iaddN dX7_swaps_18 ?_ | refine J_iadd dX7_swaps_18 ?_
    refine J_iald dX7_swaps_19 hc rfl (by omega) (by omega) ?_
    refine J_iast dX7_swaps_20 hc rfl (by omega) (by omega) ?_
    refine J_aload_0 dX7_swaps_21 ?_
    refine J_bipush (v := nI 8) dX7_swaps_22 (by decide) ?_
    refine J_iload_1 dX7_swaps_24 ?_
    first | refine J_iaddN dX7_swaps_25 ?_ | refine J_iadd dX7_swaps_25 ?_
    refine J_iload_2 dX7_swaps_26 ?_
    refine J_iast dX7_swaps_27 (hAt_s hc.1) rfl (by omega) (by omega) ?_
    rw [hu_hu]
    first | refine J_inc_1 dX7_swaps_28 (Nat.le_of_ble_eq_true rfl) rfl ?_ | refine J_iinc_1 dX7_swaps_28 rfl (Nat.le_of_ble_eq_true rfl) rfl ?_
    refine J_goto (tgt := 2) dX7_swaps_31 (by decide) ?_
    refine ih (i + 1) _ _ _ (by omega) (hAt_s hc.1) (fun j hj => ?_) (fun j hj1 hj2 => ?_) (ho.hu (by omega) (by omega))
    · unfold upd
      by_cases z : j = i
      · subst z
        rw [if_neg (by omega), if_pos rfl, if_pos rfl]
        exact ⟨(h2' j (by omega) (by omega)).2, (h2' j (by omega) (by omega)).1⟩
      · rw [if_neg (by omega), if_neg (by omega), if_neg (by omega), if_neg (by omega)]
        exact h1' j (by omega)
    · unfold upd
      rw [if_neg (by omega), if_neg (by omega), if_neg (by omega), if_neg (by omega)]
      exact h2' j (by omega) hj2
theorem m_swaps {a : Nat} {f : Nat → Int32} (hc : hAt h a (oA 0 16 f)) : Ct X mX7_swaps 0 [.ref a] h (fun r h' => r = none ∧ (∃ f', hAt h' a (oA 0 16 f') ∧ ∀ j, j < 8 → f' j = f (8 + j) ∧ f' (8 + j) = f j) ∧ offB h h' a (a + 1)) := by
  refine Ct_of jmX7_swaps [some (.ref a), none, none] (Nat.le_of_ble_eq_true rfl) rfl ?_
  show J X RX7 cX7_swaps 3 _ none _ 0 _ _ _
  refine J_iconst (v := nI 0) dX7_swaps_0 (by decide) ?_
  refine J_istore_1 dX7_swaps_1 (Nat.le_of_ble_eq_true rfl) rfl ?_
  exact l_swaps 8 0 h f none (by omega) hc (fun j hj => by omega) (fun j _ _ => ⟨rfl, rfl⟩) offB.rf
theorem md_swap (p : mdAt h D tb F) {h' : HF} {fm : Nat → Int32} {G : Nat → Nat → Int32} (ho : ∀ b, b < 52 ∨ 58 ≤ b → h' b = h b) (hm : hAt h' 52 (oA 0 2 fm)) (hm0 : fm 0 = nI (dn D 1) ∧ fm 1 = nI (dn D 0)) (g0 : hAt h' 53 (oA 0 16 (G 0))) (g1 : hAt h' 54 (oA 0 16 (G 1))) (g2 : hAt h' 55 (oA 0 16 (G 2))) (g3 : hAt h' 56 (oA 0 16 (G 3))) (g4 : hAt h' 57 (oA 0 16 (G 4))) (hG : ∀ k, k < 5 → ∀ j, j < 8 → G k j = F k (8 + j) ∧ G k (8 + j) = F k j) : mdAt h' (dSW D) tb G := by
  obtain ⟨h0, -, -, hF, ⟨fs, hfs, hfs0⟩, ⟨fl, hfl, hfl0⟩, hsh, hscr, k1, k2, k3, k4, k5, k6, k7, k8⟩ := p
  have m : ∀ {a : Nat} {c : AE}, hAt h a c → (a < 52 ∨ 58 ≤ a) → hAt h' a c := fun q r => ⟨q.1, (ho _ r).trans q.2⟩
  refine ⟨m h0 (by omega), ⟨fm, hm, fun l hl => ?_⟩, ⟨g0, g1, g2, g3, g4⟩, fun l e k hl he hk => ?_, ⟨fs, m hfs (by omega), hfs0⟩, ⟨fl, m hfl (by omega), hfl0⟩, mSh_o hsh (fun b l u => ho b (by omega)), mScr_o hscr (fun b hb => ho b (by omega)), k1, k2, k3, k4, k5, fun l hl => ?_, fun l e hl he => ?_, k8⟩
  · rcases (show l = 0 ∨ l = 1 by omega) with rfl | rfl
    · exact hm0.1
    · exact hm0.2
  · rcases (show l = 0 ∨ l = 1 by omega) with rfl | rfl
    · have he' : e < dn D 1 := he
      have := k6 1 (by decide)
      rw [Nat.mul_zero, Nat.zero_add, (hG k hk e (by omega)).1]
      exact hF 1 e k (by decide) he' hk
    · have he' : e < dn D 0 := he
      have := k6 0 (by decide)
      rw [Nat.mul_one, (hG k hk e (by omega)).2]
      have := hF 0 e k (by decide) he' hk
      rw [Nat.mul_zero, Nat.zero_add] at this
      exact this
  · rcases (show l = 0 ∨ l = 1 by omega) with rfl | rfl
    · exact k6 1 (by decide)
    · exact k6 0 (by decide)
  · rcases (show l = 0 ∨ l = 1 by omega) with rfl | rfl
    · exact k7 1 e (by decide) he
    · exact k7 0 e (by decide) he
theorem m_swap (p : mdAt h D tb F) : Ct X mX7_swap 1 [.ref 51] h (fun r h' => r = some (.int (nI (dn D 1 + dn D 0))) ∧ moAt h' (dSW D) ∧ offB h h' 51 71) := by
  obtain ⟨h0, ⟨fm, hm, hm0⟩, ⟨a0, a1, a2, a3, a4⟩, -⟩ := id p
  refine Ct_of jmX7_swap [some (.ref 51), none] (Nat.le_of_ble_eq_true rfl) rfl ?_
  show J X RX7 cX7_swap 2 _ (some .int) _ 0 _ _ _
  refine J_aload_0 dX7_swap_0 ?_
  refine J_get dX7_swap_1 fl_X7_13 h0 rfl ?_
  refine J_cS1 dX7_swap_4 jmX7_swaps ms_X7_96 (Nat.le_of_ble_eq_true rfl) (by decide) (m_swaps a0) (fun r h' q => ?_)
  obtain ⟨rfl, ⟨b0, q0, r0⟩, o0⟩ := q
  refine J_aload_0 dX7_swap_7 ?_
  refine J_get dX7_swap_8 fl_X7_16 (hAt_off h0 o0 (by omega)) rfl ?_
  refine J_cS1 dX7_swap_11 jmX7_swaps ms_X7_96 (Nat.le_of_ble_eq_true rfl) (by decide) (m_swaps (hAt_off a1 o0 (by omega))) (fun r h' q => ?_)
  obtain ⟨rfl, ⟨b1, q1, r1⟩, o1⟩ := q
  refine J_aload_0 dX7_swap_14 ?_
  refine J_get dX7_swap_15 fl_X7_19 (hAt_off (hAt_off h0 o0 (by omega)) o1 (by omega)) rfl ?_
  refine J_cS1 dX7_swap_18 jmX7_swaps ms_X7_96 (Nat.le_of_ble_eq_true rfl) (by decide) (m_swaps (hAt_off (hAt_off a2 o0 (by omega)) o1 (by omega))) (fun r h' q => ?_)
  obtain ⟨rfl, ⟨b2, q2, r2⟩, o2⟩ := q
  refine J_aload_0 dX7_swap_21 ?_
  refine J_get dX7_swap_22 fl_X7_22 (hAt_off (hAt_off (hAt_off h0 o0 (by omega)) o1 (by omega)) o2 (by omega)) rfl ?_
  refine J_cS1 dX7_swap_25 jmX7_swaps ms_X7_96 (Nat.le_of_ble_eq_true rfl) (by decide) (m_swaps (hAt_off (hAt_off (hAt_off a3 o0 (by omega)) o1 (by omega)) o2 (by omega))) (fun r h' q => ?_)
  obtain ⟨rfl, ⟨b3, q3, r3⟩, o3⟩ := q
  refine J_aload_0 dX7_swap_28 ?_
  refine J_get dX7_swap_29 fl_X7_25 (hAt_off (hAt_off (hAt_off (hAt_off h0 o0 (by omega)) o1 (by omega)) o2 (by omega)) o3 (by omega)) rfl ?_
  refine J_cS1 dX7_swap_32 jmX7_swaps ms_X7_96 (Nat.le_of_ble_eq_true rfl) (by decide) (m_swaps (hAt_off (hAt_off (hAt_off (hAt_off a4 o0 (by omega)) o1 (by omega)) o2 (by omega)) o3 (by omega))) (fun r h' q => ?_)
  obtain ⟨rfl, ⟨b4, q4, r4⟩, o4⟩ := q
  have H0 := hAt_off (hAt_off (hAt_off (hAt_off (hAt_off h0 o0 (by omega)) o1 (by omega)) o2 (by omega)) o3 (by omega)) o4 (by omega)
  have HM := hAt_off (hAt_off (hAt_off (hAt_off (hAt_off hm o0 (by omega)) o1 (by omega)) o2 (by omega)) o3 (by omega)) o4 (by omega)
  have G0 := hAt_off (hAt_off (hAt_off (hAt_off q0 o1 (by omega)) o2 (by omega)) o3 (by omega)) o4 (by omega)
  have G1 := hAt_off (hAt_off (hAt_off q1 o2 (by omega)) o3 (by omega)) o4 (by omega)
  have G2 := hAt_off (hAt_off q2 o3 (by omega)) o4 (by omega)
  have G3 := hAt_off q3 o4 (by omega)
  have OO : offB h h' 53 58 := ((((o0.wide (by omega) (by omega)).tr (o1.wide (by omega) (by omega))).tr (o2.wide (by omega) (by omega))).tr (o3.wide (by omega) (by omega))).tr (o4.wide (by omega) (by omega))
  have f0 := hm0 0 (by decide)
  have f1 := hm0 1 (by decide)
  have hGG : ∀ k, k < 5 → ∀ j, j < 8 → (if k = 0 then b0 else if k = 1 then b1 else if k = 2 then b2 else if k = 3 then b3 else b4) j = F k (8 + j) ∧ (if k = 0 then b0 else if k = 1 then b1 else if k = 2 then b2 else if k = 3 then b3 else b4) (8 + j) = F k j := by
    intro k hk
    rcases (show k = 0 ∨ k = 1 ∨ k = 2 ∨ k = 3 ∨ k = 4 by omega) with rfl | rfl | rfl | rfl | rfl
    · exact r0
    · exact r1
    · exact r2
    · exact r3
    · exact r4
  generalize h' = h2 at H0 HM G0 G1 G2 G3 OO q4 ⊢
  refine J_aload_0 dX7_swap_35 ?_
  refine J_get dX7_swap_36 fl_X7_7 H0 rfl ?_
  refine J_iconst (v := nI 0) dX7_swap_39 (by decide) ?_
  refine J_iald dX7_swap_40 HM rfl (by omega) (by omega) ?_
  refine J_topi (b := nI (dn D 0)) (f0) ?_
  refine J_istore_1 dX7_swap_41 (Nat.le_of_ble_eq_true rfl) rfl ?_
  refine J_aload_0 dX7_swap_42 ?_
  refine J_get dX7_swap_43 fl_X7_7 H0 rfl ?_
  refine J_iconst (v := nI 0) dX7_swap_46 (by decide) ?_
  refine J_aload_0 dX7_swap_47 ?_
  refine J_get dX7_swap_48 fl_X7_7 H0 rfl ?_
  refine J_iconst (v := nI 1) dX7_swap_51 (by decide) ?_
  refine J_iald dX7_swap_52 HM rfl (by omega) (by omega) ?_
  refine J_topi (b := nI (dn D 1)) (f1) ?_
  refine J_iast dX7_swap_53 HM rfl (by omega) (by omega) ?_
  refine J_aload_0 dX7_swap_54 ?_
  refine J_get dX7_swap_55 fl_X7_7 (hAt_ne H0 (by omega)) rfl ?_
  refine J_iconst (v := nI 1) dX7_swap_58 (by decide) ?_
  refine J_iload_1 dX7_swap_59 ?_
  refine J_iast dX7_swap_60 (hAt_s HM.1) rfl (by omega) (by omega) ?_
  rw [hu_hu]
  refine J_aload_0 dX7_swap_61 ?_
  refine J_get dX7_swap_62 fl_X7_7 (hAt_ne H0 (by omega)) rfl ?_
  refine J_iconst (v := nI 0) dX7_swap_65 (by decide) ?_
  refine J_iald dX7_swap_66 (hAt_s HM.1) rfl (by omega) (by omega) ?_
  refine J_topi (b := nI (dn D 1)) (rfl) ?_
  refine J_aload_0 dX7_swap_67 ?_
  refine J_get dX7_swap_68 fl_X7_7 (hAt_ne H0 (by omega)) rfl ?_
  refine J_iconst (v := nI 1) dX7_swap_71 (by decide) ?_
  refine J_iald dX7_swap_72 (hAt_s HM.1) rfl (by omega) (by omega) ?_
  refine J_topi (b := nI (dn D 0)) (rfl) ?_
  first | refine J_iaddN dX7_swap_73 ?_ | refine J_iadd dX7_swap_73 ?_
  exact J_iret dX7_swap_74 rfl (⟨rfl, ⟨tb, _, md_swap p (G := fun k => if k = 0 then b0 else if k = 1 then b1 else if k = 2 then b2 else if k = 3 then b3 else b4) (fun b hb => (hu_ne (by omega)).trans (OO b (by omega))) (hAt_s HM.1) ⟨rfl, rfl⟩ (hAt_ne G0 (by omega)) (hAt_ne G1 (by omega)) (hAt_ne G2 (by omega)) (hAt_ne G3 (by omega)) (hAt_ne q4 (by omega)) hGG⟩, (OO.wide (by omega) (by omega)).hu (by omega) (by omega)⟩)
end
