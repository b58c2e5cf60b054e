/-! THE REFERENCE: its object is cell 51, its rows 52 to 70; F: the five rows of the EDITS -/
def moB (tb : Int32) (f : Nat) : AE := oB 6 [.ref 52, .ref 53, .ref 54, .ref 55, .ref 56, .ref 57, .ref 58, .ref 59, .ref 60, .ref 61, .ref 62, .ref 63, .ref 64, .ref 65, .int tb, .ref 66, .ref 67, .ref 68, .ref 69, .ref 70, .int (nI f)]
def mScr (h : HF) : Prop := (∃ f : Nat → Int32, hAt h 60 (oA 0 2 f)) ∧ (∀ k, k < 4 → ∃ f : Nat → Int32, hAt h (61 + k) (oA 0 16 f)) ∧ (∃ f : Nat → Int32, hAt h 65 (oA 0 8 f)) ∧ ∃ f : Nat → Int32, hAt h 70 (oA 0 60 f)
def mSh (h : HF) (D : DS) : Prop := (∃ f : Nat → Int32, hAt h 66 (oA 1 4 f) ∧ ∀ s, s < 4 → f s = if (dsh D s).1 then 0 else 1) ∧ (∃ f : Nat → Int32, hAt h 67 (oA 0 4 f) ∧ ∀ s, s < 4 → f s = nI (dsh D s).2.1) ∧ (∃ f : Nat → Int32, hAt h 68 (oA 0 4 f) ∧ ∀ s, s < 4 → f s = nI (dsh D s).2.2.1) ∧ ∃ f : Nat → Int32, hAt h 69 (oA 0 240 f) ∧ ∀ s j, s < 4 → j < 60 → f (60 * s + j) = (dsh D s).2.2.2 j
def mdAt (h : HF) (D : DS) (tb : Int32) (F : Nat → Nat → Int32) : Prop :=
  hAt h 51 (oB 6 [.ref 52, .ref 53, .ref 54, .ref 55, .ref 56, .ref 57, .ref 58, .ref 59, .ref 60, .ref 61, .ref 62, .ref 63, .ref 64, .ref 65, .int tb, .ref 66, .ref 67, .ref 68, .ref 69, .ref 70, .int (nI (dfi D))]) ∧
  (∃ f : Nat → Int32, hAt h 52 (oA 0 2 f) ∧ ∀ l, l < 2 → f l = nI (dn D l)) ∧
  (hAt h 53 (oA 0 16 (F 0)) ∧ hAt h 54 (oA 0 16 (F 1)) ∧ hAt h 55 (oA 0 16 (F 2)) ∧ hAt h 56 (oA 0 16 (F 3)) ∧ hAt h 57 (oA 0 16 (F 4))) ∧
  (∀ l e k, l < 2 → e < dn D l → k < 5 → F k (8 * l + e) = nI (de D l e k)) ∧
  (∃ f : Nat → Int32, hAt h 58 (oA 0 3 f) ∧ ∀ j, j < 3 → f j = nI (dst D j)) ∧
  (∃ f : Nat → Int32, hAt h 59 (oA 0 6 f) ∧ ∀ j, j < 6 → f j = nI (dl D j)) ∧ mSh h D ∧ mScr h ∧ dok D
def moAt (h : HF) (D : DS) : Prop := ∃ tb F, mdAt h D tb F
theorem mSh_o {h h' : HF} {D : DS} (p : mSh h D) (hq : ∀ b, 66 ≤ b → b < 70 → h' b = h b) : mSh h' D := by
  obtain ⟨⟨f1, a1, b1⟩, ⟨f2, a2, b2⟩, ⟨f3, a3, b3⟩, ⟨f4, a4, b4⟩⟩ := p
  exact ⟨⟨f1, ⟨a1.1, (hq _ (by omega) (by omega)).trans a1.2⟩, b1⟩, ⟨f2, ⟨a2.1, (hq _ (by omega) (by omega)).trans a2.2⟩, b2⟩, ⟨f3, ⟨a3.1, (hq _ (by omega) (by omega)).trans a3.2⟩, b3⟩, ⟨f4, ⟨a4.1, (hq _ (by omega) (by omega)).trans a4.2⟩, b4⟩⟩
theorem mScr_o {h h' : HF} (p : mScr h) (hq : ∀ b, (60 ≤ b ∧ b < 66) ∨ b = 70 → h' b = h b) : mScr h' := by
  obtain ⟨⟨f1, a1⟩, a2, ⟨f3, a3⟩, ⟨f4, a4⟩⟩ := p
  refine ⟨⟨f1, ⟨a1.1, (hq _ (by omega)).trans a1.2⟩⟩, fun k hk => ?_, ⟨f3, ⟨a3.1, (hq _ (by omega)).trans a3.2⟩⟩, ⟨f4, ⟨a4.1, (hq _ (by omega)).trans a4.2⟩⟩⟩
  obtain ⟨f, a⟩ := a2 k hk
  exact ⟨f, ⟨a.1, (hq _ (by omega)).trans a.2⟩⟩
/-- changed only in rows that are worked out anew -/
theorem md_off {h h' : HF} {D : DS} {tb tb' : Int32} {F : Nat → Nat → Int32} (p : mdAt h D tb F) (h51 : hAt h' 51 (oB 6 [.ref 52, .ref 53, .ref 54, .ref 55, .ref 56, .ref 57, .ref 58, .ref 59, .ref 60, .ref 61, .ref 62, .ref 63, .ref 64, .ref 65, .int tb', .ref 66, .ref 67, .ref 68, .ref 69, .ref 70, .int (nI (dfi D))])) (hq : ∀ b, (52 ≤ b ∧ b < 60) ∨ (66 ≤ b ∧ b < 70) → h' b = h b) (hs : mScr h') : mdAt h' D tb' F := by
  obtain ⟨h0, ⟨fm, hm, hm0⟩, ⟨e0, e1, e2, e3, e4⟩, hF, ⟨fs, hfs, hfs0⟩, ⟨fl, hfl, hfl0⟩, hsh, -, hd⟩ := p
  have m : ∀ {a : Nat} {c : AE}, hAt h a c → ((52 ≤ a ∧ a < 60) ∨ (66 ≤ a ∧ a < 70)) → hAt h' a c := fun q r => ⟨q.1, (hq _ r).trans q.2⟩
  exact ⟨h51, ⟨fm, m hm (by omega), hm0⟩, ⟨m e0 (by omega), m e1 (by omega), m e2 (by omega), m e3 (by omega), m e4 (by omega)⟩, hF, ⟨fs, m hfs (by omega), hfs0⟩, ⟨fl, m hfl (by omega), hfl0⟩, mSh_o hsh (fun b l u => hq b (by omega)), hs, hd⟩
theorem moAt.off {h h' : HF} {D : DS} (p : moAt h D) (hq : ∀ b, 51 ≤ b → b < 71 → h' b = h b) : moAt h' D := by
  obtain ⟨tb, F, p⟩ := p
  exact ⟨tb, F, md_off p ⟨p.1.1, (hq _ (by omega) (by omega)).trans p.1.2⟩ (fun b hb => hq b (by omega) (by omega)) (mScr_o p.2.2.2.2.2.2.2.1 (fun b hb => hq b (by omega) (by omega)))⟩
theorem in_lt {v : Int32} {n : Nat} (hn : n + 1 < 2 ^ 31) : (nI 0 ≤ v ∧ v ≤ nI n) ↔ (0 ≤ v ∧ v < nI (n + 1)) := by
  rw [Int32.le_iff_toInt_le, Int32.le_iff_toInt_le, Int32.le_iff_toInt_le, Int32.lt_iff_toInt_lt, nI_toInt (by omega), nI_toInt (by omega), nI_toInt hn, Int32.toInt_zero]
  omega
section
variable {X : Cx} {h : HF}
theorem m_in {v a b : Int32} : CtI X mX7_in 0 [.int v, .int a, .int b] h (if a ≤ v ∧ v ≤ b then 1 else 0) := by
  refine Ct_of jmX7_in [some (.int v), some (.int a), some (.int b)] (Nat.le_of_ble_eq_true rfl) rfl ?_
  show J X RX7 cX7_in 3 _ (some .boolean) _ 0 _ _ _
  refine J_iload_0 dX7_in_0 ?_
  refine J_iload_1 dX7_in_1 ?_
  refine J_icmp_lt (tgt := 14) dX7_in_2 (by decide) (fun c2 => ?_) (fun c2 => ?_)
  · have e : (if a ≤ v ∧ v ≤ b then (1 : Int32) else 0) = 0 := if_neg (by first | exact (fun z => absurd z.2 (Int32.not_le.mpr c7)) | exact (fun z => absurd z.1 (Int32.not_le.mpr c2)))
    refine J_iconst (v := nI 0) dX7_in_14 (by decide) ?_
    exact J_zret dX7_in_15 rfl (by first | exact Or.inl rfl | exact Or.inr rfl | exact bI_01 _) (⟨by rw [e]; rfl, rfl⟩)
  · refine J_iload_0 dX7_in_5 ?_
    refine J_iload_2 dX7_in_6 ?_
    refine J_icmp_gt (tgt := 14) dX7_in_7 (by decide) (fun c7 => ?_) (fun c7 => ?_)
    · have e : (if a ≤ v ∧ v ≤ b then (1 : Int32) else 0) = 0 := if_neg (by first | exact (fun z => absurd z.2 (Int32.not_le.mpr c7)) | exact (fun z => absurd z.1 (Int32.not_le.mpr c2)))
      refine J_iconst (v := nI 0) dX7_in_14 (by decide) ?_
      exact J_zret dX7_in_15 rfl (by first | exact Or.inl rfl | exact Or.inr rfl | exact bI_01 _) (⟨by rw [e]; rfl, rfl⟩)
    · refine J_iconst (v := nI 1) dX7_in_10 (by decide) ?_
      have e : (if a ≤ v ∧ v ≤ b then (1 : Int32) else 0) = 1 := if_pos ⟨Int32.not_lt.mp c2, Int32.not_lt.mp c7⟩
      refine J_goto (tgt := 15) dX7_in_11 (by decide) ?_
      exact J_zret dX7_in_15 rfl (by first | exact Or.inl rfl | exact Or.inr rfl | exact bI_01 _) (⟨by rw [e]; rfl, rfl⟩)
theorem m_inT {j a b : Nat} (h1 : a ≤ j) (h2 : j ≤ b) (hb : b < 2 ^ 31) : CtI X mX7_in 0 [.int (nI j), .int (nI a), .int (nI b)] h 1 := by
  have e := m_in (X := X) (h := h) (v := nI j) (a := nI a) (b := nI b)
  rw [if_pos ⟨(nI_leI (by omega) (by omega)).mpr h1, (nI_leI (by omega) hb).mpr h2⟩] at e
  exact e
theorem m_inF {v a b : Int32} (hv : ¬ (a ≤ v ∧ v ≤ b)) : CtI X mX7_in 0 [.int v, .int a, .int b] h 0 := by
  have e := m_in (X := X) (h := h) (v := v) (a := a) (b := b)
  rw [if_neg hv] at e
  exact e
theorem m_inB {v : Int32} {n : Nat} (hn : n + 1 < 2 ^ 31) (hv : ¬ (0 ≤ v ∧ v < nI (n + 1))) : CtI X mX7_in 0 [.int v, .int (nI 0), .int (nI n)] h 0 := m_inF (fun z => hv ((in_lt hn).mp z))
theorem m_listT {l : Nat} (hl : l < 2) : CtI X mX7_isList 1 [.int (nI l)] h 1 := by
  refine Ct_of jmX7_isList [some (.int (nI l))] (Nat.le_of_ble_eq_true rfl) rfl ?_
  show J X RX7 cX7_isList 1 _ (some .boolean) _ 0 _ _ _
  refine J_iload_0 dX7_isList_0 ?_
  refine J_iconst (v := nI 0) dX7_isList_1 (by decide) ?_
  refine J_iconst (v := nI 1) dX7_isList_2 (by decide) ?_
  refine J_cS3i dX7_isList_3 jmX7_in ms_X7_69 (Nat.le_of_ble_eq_true rfl) (by decide) (m_inT (by omega) (by omega) (by decide)) ?_
  exact J_zret dX7_isList_6 rfl (by first | exact Or.inl rfl | exact Or.inr rfl | exact bI_01 _) (⟨rfl, rfl⟩)
theorem m_listF {l : Int32} (hl : ¬ (0 ≤ l ∧ l < nI 2)) : CtI X mX7_isList 1 [.int l] h 0 := by
  refine Ct_of jmX7_isList [some (.int l)] (Nat.le_of_ble_eq_true rfl) rfl ?_
  show J X RX7 cX7_isList 1 _ (some .boolean) _ 0 _ _ _
  refine J_iload_0 dX7_isList_0 ?_
  refine J_iconst (v := nI 0) dX7_isList_1 (by decide) ?_
  refine J_iconst (v := nI 1) dX7_isList_2 (by decide) ?_
  refine J_cS3i dX7_isList_3 jmX7_in ms_X7_69 (Nat.le_of_ble_eq_true rfl) (by decide) (m_inB (n := 1) (by decide) hl) ?_
  exact J_zret dX7_isList_6 rfl (by first | exact Or.inl rfl | exact Or.inr rfl | exact bI_01 _) (⟨rfl, rfl⟩)
theorem m_reelT {l : Nat} (hl : l < 6) : CtI X mX7_isReel 1 [.int (nI l)] h 1 := by
  refine Ct_of jmX7_isReel [some (.int (nI l))] (Nat.le_of_ble_eq_true rfl) rfl ?_
  show J X RX7 cX7_isReel 1 _ (some .boolean) _ 0 _ _ _
  refine J_iload_0 dX7_isReel_0 ?_
  refine J_iconst (v := nI 0) dX7_isReel_1 (by decide) ?_
  refine J_iconst (v := nI 5) dX7_isReel_2 (by decide) ?_
  refine J_cS3i dX7_isReel_3 jmX7_in ms_X7_69 (Nat.le_of_ble_eq_true rfl) (by decide) (m_inT (by omega) (by omega) (by decide)) ?_
  exact J_zret dX7_isReel_6 rfl (by first | exact Or.inl rfl | exact Or.inr rfl | exact bI_01 _) (⟨rfl, rfl⟩)
theorem m_reelF {l : Int32} (hl : ¬ (0 ≤ l ∧ l < nI 6)) : CtI X mX7_isReel 1 [.int l] h 0 := by
  refine Ct_of jmX7_isReel [some (.int l)] (Nat.le_of_ble_eq_true rfl) rfl ?_
  show J X RX7 cX7_isReel 1 _ (some .boolean) _ 0 _ _ _
  refine J_iload_0 dX7_isReel_0 ?_
  refine J_iconst (v := nI 0) dX7_isReel_1 (by decide) ?_
  refine J_iconst (v := nI 5) dX7_isReel_2 (by decide) ?_
  refine J_cS3i dX7_isReel_3 jmX7_in ms_X7_69 (Nat.le_of_ble_eq_true rfl) (by decide) (m_inB (n := 5) (by decide) hl) ?_
  exact J_zret dX7_isReel_6 rfl (by first | exact Or.inl rfl | exact Or.inr rfl | exact bI_01 _) (⟨rfl, rfl⟩)
theorem m_sheetT {l : Nat} (hl : l < 4) : CtI X mX7_isSheet 1 [.int (nI l)] h 1 := by
  refine Ct_of jmX7_isSheet [some (.int (nI l))] (Nat.le_of_ble_eq_true rfl) rfl ?_
  show J X RX7 cX7_isSheet 1 _ (some .boolean) _ 0 _ _ _
  refine J_iload_0 dX7_isSheet_0 ?_
  refine J_iconst (v := nI 0) dX7_isSheet_1 (by decide) ?_
  refine J_iconst (v := nI 3) dX7_isSheet_2 (by decide) ?_
  refine J_cS3i dX7_isSheet_3 jmX7_in ms_X7_69 (Nat.le_of_ble_eq_true rfl) (by decide) (m_inT (by omega) (by omega) (by decide)) ?_
  exact J_zret dX7_isSheet_6 rfl (by first | exact Or.inl rfl | exact Or.inr rfl | exact bI_01 _) (⟨rfl, rfl⟩)
theorem m_sheetF {l : Int32} (hl : ¬ (0 ≤ l ∧ l < nI 4)) : CtI X mX7_isSheet 1 [.int l] h 0 := by
  refine Ct_of jmX7_isSheet [some (.int l)] (Nat.le_of_ble_eq_true rfl) rfl ?_
  show J X RX7 cX7_isSheet 1 _ (some .boolean) _ 0 _ _ _
  refine J_iload_0 dX7_isSheet_0 ?_
  refine J_iconst (v := nI 0) dX7_isSheet_1 (by decide) ?_
  refine J_iconst (v := nI 3) dX7_isSheet_2 (by decide) ?_
  refine J_cS3i dX7_isSheet_3 jmX7_in ms_X7_69 (Nat.le_of_ble_eq_true rfl) (by decide) (m_inB (n := 3) (by decide) hl) ?_
  exact J_zret dX7_isSheet_6 rfl (by first | exact Or.inl rfl | exact Or.inr rfl | exact bI_01 _) (⟨rfl, rfl⟩)
theorem m_well {w : Nat} (hw : w < 4) {v : Int32} : CtI X mX7_isWell 1 [.int (nI w), .int v] h (if jt1 w ≤ v ∧ v ≤ jt2 w then 1 else 0) := by
  refine Ct_of jmX7_isWell [some (.int (nI w)), some (.int v)] (Nat.le_of_ble_eq_true rfl) rfl ?_
  show J X RX7 cX7_isWell 2 _ (some .boolean) _ 0 _ _ _
  rcases (show w = 0 ∨ w = 1 ∨ w = 2 ∨ w = 3 by omega) with rfl | rfl | rfl | rfl
  · refine J_iload_0 dX7_isWell_0 ?_
    refine J_if_neN (tgt := 14) dX7_isWell_1 (by decide) (by omega) (fun c => absurd c (by omega)) (fun _ => ?_)
    refine J_iload_1 dX7_isWell_4 ?_
    refine J_iconst (v := nI 0) dX7_isWell_5 (by decide) ?_
    refine J_ldc dX7_isWell_6 kc_X7_73 ?_
    refine J_cS3i dX7_isWell_8 jmX7_in ms_X7_69 (Nat.le_of_ble_eq_true rfl) (by decide) (m_in) ?_
    refine J_goto (tgt := 65) dX7_isWell_11 (by decide) ?_
    exact J_zret dX7_isWell_65 rfl (by first | exact Or.inl rfl | exact Or.inr rfl | exact bI_01 _) (⟨rfl, rfl⟩)
  · refine J_iload_0 dX7_isWell_0 ?_
    refine J_if_neN (tgt := 14) dX7_isWell_1 (by decide) (by omega) (fun _ => ?_) (fun c => absurd c (by omega))
    refine J_iload_0 dX7_isWell_14 ?_
    refine J_iconst (v := nI 1) dX7_isWell_15 (by decide) ?_
    refine J_icmp_neN (tgt := 30) dX7_isWell_16 (by decide) (by omega) (by omega) (fun c => absurd c (by omega)) (fun _ => ?_)
    refine J_iload_1 dX7_isWell_19 ?_
    refine J_iconst (v := nI 1) dX7_isWell_20 (by decide) ?_
    refine J_sipush (v := nI 500) dX7_isWell_21 (by decide) ?_
    refine J_cS3i dX7_isWell_24 jmX7_in ms_X7_69 (Nat.le_of_ble_eq_true rfl) (by decide) (m_in) ?_
    refine J_goto (tgt := 65) dX7_isWell_27 (by decide) ?_
    exact J_zret dX7_isWell_65 rfl (by first | exact Or.inl rfl | exact Or.inr rfl | exact bI_01 _) (⟨rfl, rfl⟩)
  · refine J_iload_0 dX7_isWell_0 ?_
    refine J_if_neN (tgt := 14) dX7_isWell_1 (by decide) (by omega) (fun _ => ?_) (fun c => absurd c (by omega))
    refine J_iload_0 dX7_isWell_14 ?_
    refine J_iconst (v := nI 1) dX7_isWell_15 (by decide) ?_
    refine J_icmp_neN (tgt := 30) dX7_isWell_16 (by decide) (by omega) (by omega) (fun _ => ?_) (fun c => absurd c (by omega))
    refine J_iload_0 dX7_isWell_30 ?_
    refine J_iconst (v := nI 2) dX7_isWell_31 (by decide) ?_
    refine J_icmp_neN (tgt := 45) dX7_isWell_32 (by decide) (by omega) (by omega) (fun c => absurd c (by omega)) (fun _ => ?_)
    refine J_iload_1 dX7_isWell_35 ?_
    refine J_iconst (v := nI 0) dX7_isWell_36 (by decide) ?_
    refine J_bipush (v := nI 6) dX7_isWell_37 (by decide) ?_
    refine J_cS3i dX7_isWell_39 jmX7_in ms_X7_69 (Nat.le_of_ble_eq_true rfl) (by decide) (m_in) ?_
    refine J_goto (tgt := 65) dX7_isWell_42 (by decide) ?_
    exact J_zret dX7_isWell_65 rfl (by first | exact Or.inl rfl | exact Or.inr rfl | exact bI_01 _) (⟨rfl, rfl⟩)
  · refine J_iload_0 dX7_isWell_0 ?_
    refine J_if_neN (tgt := 14) dX7_isWell_1 (by decide) (by omega) (fun _ => ?_) (fun c => absurd c (by omega))
    refine J_iload_0 dX7_isWell_14 ?_
    refine J_iconst (v := nI 1) dX7_isWell_15 (by decide) ?_
    refine J_icmp_neN (tgt := 30) dX7_isWell_16 (by decide) (by omega) (by omega) (fun _ => ?_) (fun c => absurd c (by omega))
    refine J_iload_0 dX7_isWell_30 ?_
    refine J_iconst (v := nI 2) dX7_isWell_31 (by decide) ?_
    refine J_icmp_neN (tgt := 45) dX7_isWell_32 (by decide) (by omega) (by omega) (fun _ => ?_) (fun c => absurd c (by omega))
    refine J_iload_0 dX7_isWell_45 ?_
    refine J_iconst (v := nI 3) dX7_isWell_46 (by decide) ?_
    refine J_icmp_neN (tgt := 64) dX7_isWell_47 (by decide) (by omega) (by omega) (fun c => absurd c (by omega)) (fun _ => ?_)
    refine J_iload_1 dX7_isWell_50 ?_
    refine J_iconst (v := nI 1) dX7_isWell_51 (by decide) ?_
    refine J_bipush (v := nI 6) dX7_isWell_52 (by decide) ?_
    refine J_cS3i dX7_isWell_54 jmX7_in ms_X7_69 (Nat.le_of_ble_eq_true rfl) (by decide) (m_in) ?_
    refine J_topi (b := bI (jt1 3 ≤ v ∧ v ≤ jt2 3)) (rfl) ?_
    first | refine J_if_eqB (tgt := 64) dX7_isWell_57 (by decide) (fun c57 => ?_) (fun c57 => ?_) | refine J_if_eqN (tgt := 64) dX7_isWell_57 (by decide) (by omega) (fun c57 => ?_) (fun c57 => ?_) | refine J_if_eq (tgt := 64) dX7_isWell_57 (by decide) (fun c57 => ?_) (fun c57 => ?_)
    · have e : (if jt1 3 ≤ v ∧ v ≤ jt2 3 then (1 : Int32) else 0) = 0 := if_neg c57
      refine J_iconst (v := nI 0) dX7_isWell_64 (by decide) ?_
      exact J_zret dX7_isWell_65 rfl (by first | exact Or.inl rfl | exact Or.inr rfl | exact bI_01 _) (⟨by rw [e]; rfl, rfl⟩)
    · refine J_iconst (v := nI 1) dX7_isWell_60 (by decide) ?_
      have e : (if jt1 3 ≤ v ∧ v ≤ jt2 3 then (1 : Int32) else 0) = 1 := if_pos c57
      refine J_goto (tgt := 65) dX7_isWell_61 (by decide) ?_
      exact J_zret dX7_isWell_65 rfl (by first | exact Or.inl rfl | exact Or.inr rfl | exact bI_01 _) (⟨by rw [e]; rfl, rfl⟩)
theorem nI_inj0 {u : Int32} {n : Nat} (hn : n < 4) (hu : ¬ (0 ≤ u ∧ u < nI 4)) : ¬ u = nI n := by
  rintro rfl
  exact hu ⟨nI_pos' (by omega), (nI_ltI (by omega) (by decide)).mpr hn⟩
theorem m_wellNo {u v : Int32} (hu : ¬ (0 ≤ u ∧ u < nI 4)) : CtI X mX7_isWell 1 [.int u, .int v] h 0 := by
  refine Ct_of jmX7_isWell [some (.int u), some (.int v)] (Nat.le_of_ble_eq_true rfl) rfl ?_
  show J X RX7 cX7_isWell 2 _ (some .boolean) _ 0 _ _ _
  refine J_iload_0 dX7_isWell_0 ?_
  refine J_if_ne (tgt := 14) dX7_isWell_1 (by decide) (fun _ => ?_) (fun c => absurd c (nI_inj0 (n := 0) (by decide) hu))
  refine J_iload_0 dX7_isWell_14 ?_
  refine J_iconst (v := nI 1) dX7_isWell_15 (by decide) ?_
  refine J_icmp_ne (tgt := 30) dX7_isWell_16 (by decide) (fun _ => ?_) (fun c => absurd c (nI_inj0 (n := 1) (by decide) hu))
  refine J_iload_0 dX7_isWell_30 ?_
  refine J_iconst (v := nI 2) dX7_isWell_31 (by decide) ?_
  refine J_icmp_ne (tgt := 45) dX7_isWell_32 (by decide) (fun _ => ?_) (fun c => absurd c (nI_inj0 (n := 2) (by decide) hu))
  refine J_iload_0 dX7_isWell_45 ?_
  refine J_iconst (v := nI 3) dX7_isWell_46 (by decide) ?_
  refine J_icmp_ne (tgt := 64) dX7_isWell_47 (by decide) (fun _ => ?_) (fun c => absurd c (nI_inj0 (n := 3) (by decide) hu))
  refine J_iconst (v := nI 0) dX7_isWell_64 (by decide) ?_
  exact J_zret dX7_isWell_65 rfl (by first | exact Or.inl rfl | exact Or.inr rfl | exact bI_01 _) (⟨rfl, rfl⟩)
variable {D : DS} {tb : Int32} {F : Nat → Nat → Int32}
theorem md_add (p : mdAt h D tb F) {l : Nat} {y : Nat → Nat} {fm : Nat → Int32} (hl : l < 2) (oky : edOk y) (hn : dn D l < 8) (hm0 : ∀ l, l < 2 → fm l = nI (dn D l)) :
    mdAt (hu (hu (hu (hu (hu (hu h 53 (oA 0 16 (upd (F 0) (8 * l + dn D l) (nI (y 0))))) 54 (oA 0 16 (upd (F 1) (8 * l + dn D l) (nI (y 1))))) 55 (oA 0 16 (upd (F 2) (8 * l + dn D l) (nI (y 2))))) 56 (oA 0 16 (upd (F 3) (8 * l + dn D l) (nI (y 3))))) 57 (oA 0 16 (upd (F 4) (8 * l + dn D l) (nI (y 4))))) 52 (oA 0 2 (upd fm l (nI (dn D l + 1))))) (dAdd D l y) tb (fun k => upd (F k) (8 * l + dn D l) (nI (y k))) := by
  obtain ⟨h0, ⟨fm', hm, -⟩, ⟨e0, e1, e2, e3, e4⟩, hF, ⟨fs, hfs, hfs0⟩, ⟨fl, hfl, hfl0⟩, hsh, hscr, k1, k2, k3, k4, k5, k6, k7, k8⟩ := p
  have o : ∀ b, (b < 52 ∨ 58 ≤ b) → hu (hu (hu (hu (hu (hu h 53 (oA 0 16 (upd (F 0) (8 * l + dn D l) (nI (y 0))))) 54 (oA 0 16 (upd (F 1) (8 * l + dn D l) (nI (y 1))))) 55 (oA 0 16 (upd (F 2) (8 * l + dn D l) (nI (y 2))))) 56 (oA 0 16 (upd (F 3) (8 * l + dn D l) (nI (y 3))))) 57 (oA 0 16 (upd (F 4) (8 * l + dn D l) (nI (y 4))))) 52 (oA 0 2 (upd fm l (nI (dn D l + 1)))) b = h b := by
    intro b hb
    rw [hu_ne (by omega), hu_ne (by omega), hu_ne (by omega), hu_ne (by omega), hu_ne (by omega), hu_ne (by omega)]
  have m : ∀ {a : Nat} {c : AE}, hAt h a c → (a < 52 ∨ 58 ≤ a) → hAt _ a c := fun q r => ⟨q.1, (o _ r).trans q.2⟩
  have dnl : ∀ j, dn (dAdd D l y) j = if j = l then dn D l + 1 else dn D j := fun j => rfl
  have del : ∀ j, de (dAdd D l y) j = if j = l then eset (de D l) (dn D l) y else de D j := fun j => rfl
  refine ⟨m h0 (by omega), ⟨_, hAt_s hm.1, fun j hj => ?_⟩, ⟨?_, ?_, ?_, ?_, ?_⟩, fun j e k hj he hk => ?_, ⟨fs, m hfs (by omega), hfs0⟩, ⟨fl, m hfl (by omega), hfl0⟩, mSh_o hsh (fun b l u => o b (by omega)), mScr_o hscr (fun b hb => o b (by omega)), k1, k2, k3, k4, k5, fun j hj => ?_, fun j e hj he => ?_, k8⟩
  · rw [dnl j]
    unfold upd
    split
    · rfl
    · exact hm0 j hj
  · exact hAt_ne (hAt_ne (hAt_ne (hAt_ne (hAt_ne (hAt_s e0.1) (by omega)) (by omega)) (by omega)) (by omega)) (by omega)
  · exact hAt_ne (hAt_ne (hAt_ne (hAt_ne (hAt_s e1.1) (by omega)) (by omega)) (by omega)) (by omega)
  · exact hAt_ne (hAt_ne (hAt_ne (hAt_s e2.1) (by omega)) (by omega)) (by omega)
  · exact hAt_ne (hAt_ne (hAt_s e3.1) (by omega)) (by omega)
  · exact hAt_ne (hAt_s e4.1) (by omega)
  · rw [dnl j] at he
    rw [del j]
    unfold upd
    dsimp only
    by_cases q : j = l
    · subst q
      rw [if_pos rfl] at he ⊢
      by_cases z : e = dn D j
      · subst z
        rw [if_pos rfl, eset_s]
      · rw [if_neg (by omega), eset_n z]
        exact hF j e k hj (by omega) hk
    · rw [if_neg q] at he ⊢
      have := k6 j hj
      rw [if_neg (by omega)]
      exact hF j e k hj he hk
  · rw [dnl j]
    split
    · omega
    · exact k6 j hj
  · rw [dnl j] at he
    rw [del j]
    by_cases q : j = l
    · subst q
      rw [if_pos rfl] at he ⊢
      by_cases z : e = dn D j
      · rw [z, eset_s]; exact oky
      · rw [eset_n z]; exact k7 j e hj (by omega)
    · rw [if_neg q] at he ⊢
      exact k7 j e hj he
theorem m_adds_bad {l : Int32} {r i m p q : Int32} (hb : ¬ edI r i m p q) : CtI X mX7_adds 2 [.ref 51, .int l, .int r, .int i, .int m, .int p, .int q] h (-2) := by
  have e0 := m_well (X := X) (h := h) (w := 0) (v := i) (by decide)
  have e1 := m_well (X := X) (h := h) (w := 1) (v := m) (by decide)
  have e2 := m_well (X := X) (h := h) (w := 2) (v := p) (by decide)
  have e3 := m_well (X := X) (h := h) (w := 3) (v := q) (by decide)
  refine Ct_of jmX7_adds [some (.ref 51), some (.int l), some (.int r), some (.int i), some (.int m), some (.int p), some (.int q), none] (Nat.le_of_ble_eq_true rfl) rfl ?_
  show J X RX7 cX7_adds 8 _ (some .int) _ 0 _ _ _
  by_cases hr : 0 ≤ r ∧ r < nI 6
  · obtain ⟨j, hj, rfl⟩ : ∃ j, j < 6 ∧ r = nI j := by
      rcases ix_cases r 6 (by decide) with z | z
      · exact z
      · exact absurd hr z
    by_cases h1 : jt1 0 ≤ i ∧ i ≤ jt2 0
    · rw [if_pos h1] at e0
      by_cases h2 : jt1 1 ≤ m ∧ m ≤ jt2 1
      · rw [if_pos h2] at e1
        by_cases h3 : jt1 2 ≤ p ∧ p ≤ jt2 2
        · rw [if_pos h3] at e2
          by_cases h4 : jt1 3 ≤ q ∧ q ≤ jt2 3
          · exact absurd ⟨hr, h1, h2, h3, h4⟩ hb
          · rw [if_neg h4] at e3
            refine J_iload_2 dX7_adds_0 ?_
            refine J_cS1i dX7_adds_1 jmX7_isReel ms_X7_74 (Nat.le_of_ble_eq_true rfl) (by decide) (m_reelT hj) ?_
            refine J_if_eq (tgt := 42) dX7_adds_4 (by decide) (fun c => absurd c (by decide)) (fun _ => ?_)
            refine J_iconst (v := nI 0) dX7_adds_7 (by decide) ?_
            refine J_iload_3 dX7_adds_8 ?_
            refine J_cS2i dX7_adds_9 jmX7_isWell ms_X7_78 (Nat.le_of_ble_eq_true rfl) (by decide) (e0) ?_
            refine J_if_eq (tgt := 42) dX7_adds_12 (by decide) (fun c => absurd c (by decide)) (fun _ => ?_)
            refine J_iconst (v := nI 1) dX7_adds_15 (by decide) ?_
            refine J_iload_4 dX7_adds_16 ?_
            refine J_cS2i dX7_adds_18 jmX7_isWell ms_X7_78 (Nat.le_of_ble_eq_true rfl) (by decide) (e1) ?_
            refine J_if_eq (tgt := 42) dX7_adds_21 (by decide) (fun c => absurd c (by decide)) (fun _ => ?_)
            refine J_iconst (v := nI 2) dX7_adds_24 (by decide) ?_
            refine J_iload_5 dX7_adds_25 ?_
            refine J_cS2i dX7_adds_27 jmX7_isWell ms_X7_78 (Nat.le_of_ble_eq_true rfl) (by decide) (e2) ?_
            refine J_if_eq (tgt := 42) dX7_adds_30 (by decide) (fun c => absurd c (by decide)) (fun _ => ?_)
            refine J_iconst (v := nI 3) dX7_adds_33 (by decide) ?_
            refine J_iload_6 dX7_adds_34 ?_
            refine J_cS2i dX7_adds_36 jmX7_isWell ms_X7_78 (Nat.le_of_ble_eq_true rfl) (by decide) (e3) ?_
            refine J_if_ne (tgt := 45) dX7_adds_39 (by decide) (fun c => absurd c (by decide)) (fun _ => ?_)
            refine J_bipush (v := -2) dX7_adds_42 (by decide) ?_
            exact J_iret dX7_adds_44 rfl (⟨rfl, rfl⟩)
        · rw [if_neg h3] at e2
          refine J_iload_2 dX7_adds_0 ?_
          refine J_cS1i dX7_adds_1 jmX7_isReel ms_X7_74 (Nat.le_of_ble_eq_true rfl) (by decide) (m_reelT hj) ?_
          refine J_if_eq (tgt := 42) dX7_adds_4 (by decide) (fun c => absurd c (by decide)) (fun _ => ?_)
          refine J_iconst (v := nI 0) dX7_adds_7 (by decide) ?_
          refine J_iload_3 dX7_adds_8 ?_
          refine J_cS2i dX7_adds_9 jmX7_isWell ms_X7_78 (Nat.le_of_ble_eq_true rfl) (by decide) (e0) ?_
          refine J_if_eq (tgt := 42) dX7_adds_12 (by decide) (fun c => absurd c (by decide)) (fun _ => ?_)
          refine J_iconst (v := nI 1) dX7_adds_15 (by decide) ?_
          refine J_iload_4 dX7_adds_16 ?_
          refine J_cS2i dX7_adds_18 jmX7_isWell ms_X7_78 (Nat.le_of_ble_eq_true rfl) (by decide) (e1) ?_
          refine J_if_eq (tgt := 42) dX7_adds_21 (by decide) (fun c => absurd c (by decide)) (fun _ => ?_)
          refine J_iconst (v := nI 2) dX7_adds_24 (by decide) ?_
          refine J_iload_5 dX7_adds_25 ?_
          refine J_cS2i dX7_adds_27 jmX7_isWell ms_X7_78 (Nat.le_of_ble_eq_true rfl) (by decide) (e2) ?_
          refine J_if_eq (tgt := 42) dX7_adds_30 (by decide) (fun _ => ?_) (fun c => absurd (by decide) c)
          refine J_bipush (v := -2) dX7_adds_42 (by decide) ?_
          exact J_iret dX7_adds_44 rfl (⟨rfl, rfl⟩)
      · rw [if_neg h2] at e1
        refine J_iload_2 dX7_adds_0 ?_
        refine J_cS1i dX7_adds_1 jmX7_isReel ms_X7_74 (Nat.le_of_ble_eq_true rfl) (by decide) (m_reelT hj) ?_
        refine J_if_eq (tgt := 42) dX7_adds_4 (by decide) (fun c => absurd c (by decide)) (fun _ => ?_)
        refine J_iconst (v := nI 0) dX7_adds_7 (by decide) ?_
        refine J_iload_3 dX7_adds_8 ?_
        refine J_cS2i dX7_adds_9 jmX7_isWell ms_X7_78 (Nat.le_of_ble_eq_true rfl) (by decide) (e0) ?_
        refine J_if_eq (tgt := 42) dX7_adds_12 (by decide) (fun c => absurd c (by decide)) (fun _ => ?_)
        refine J_iconst (v := nI 1) dX7_adds_15 (by decide) ?_
        refine J_iload_4 dX7_adds_16 ?_
        refine J_cS2i dX7_adds_18 jmX7_isWell ms_X7_78 (Nat.le_of_ble_eq_true rfl) (by decide) (e1) ?_
        refine J_if_eq (tgt := 42) dX7_adds_21 (by decide) (fun _ => ?_) (fun c => absurd (by decide) c)
        refine J_bipush (v := -2) dX7_adds_42 (by decide) ?_
        exact J_iret dX7_adds_44 rfl (⟨rfl, rfl⟩)
    · rw [if_neg h1] at e0
      refine J_iload_2 dX7_adds_0 ?_
      refine J_cS1i dX7_adds_1 jmX7_isReel ms_X7_74 (Nat.le_of_ble_eq_true rfl) (by decide) (m_reelT hj) ?_
      refine J_if_eq (tgt := 42) dX7_adds_4 (by decide) (fun c => absurd c (by decide)) (fun _ => ?_)
      refine J_iconst (v := nI 0) dX7_adds_7 (by decide) ?_
      refine J_iload_3 dX7_adds_8 ?_
      refine J_cS2i dX7_adds_9 jmX7_isWell ms_X7_78 (Nat.le_of_ble_eq_true rfl) (by decide) (e0) ?_
      refine J_if_eq (tgt := 42) dX7_adds_12 (by decide) (fun _ => ?_) (fun c => absurd (by decide) c)
      refine J_bipush (v := -2) dX7_adds_42 (by decide) ?_
      exact J_iret dX7_adds_44 rfl (⟨rfl, rfl⟩)
  · refine J_iload_2 dX7_adds_0 ?_
    refine J_cS1i dX7_adds_1 jmX7_isReel ms_X7_74 (Nat.le_of_ble_eq_true rfl) (by decide) (m_reelF hr) ?_
    refine J_if_eq (tgt := 42) dX7_adds_4 (by decide) (fun _ => ?_) (fun c => absurd (by decide) c)
    refine J_bipush (v := -2) dX7_adds_42 (by decide) ?_
    exact J_iret dX7_adds_44 rfl (⟨rfl, rfl⟩)
theorem m_adds_full (p : mdAt h D tb F) {l : Nat} {y : Nat → Nat} (hl : l < 2) (ok : edI (nI (y 0)) (nI (y 1)) (nI (y 2)) (nI (y 3)) (nI (y 4))) (oky : edOk y) (hn : dn D l = 8) : CtI X mX7_adds 2 [.ref 51, .int (nI l), .int (nI (y 0)), .int (nI (y 1)), .int (nI (y 2)), .int (nI (y 3)), .int (nI (y 4))] h (-4) := by
  obtain ⟨h0, ⟨fm, hm, hm0⟩, -⟩ := id p
  have e0 := m_well (X := X) (h := h) (w := 0) (v := nI (y 1)) (by decide)
  have e1 := m_well (X := X) (h := h) (w := 1) (v := nI (y 2)) (by decide)
  have e2 := m_well (X := X) (h := h) (w := 2) (v := nI (y 3)) (by decide)
  have e3 := m_well (X := X) (h := h) (w := 3) (v := nI (y 4)) (by decide)
  rw [if_pos (show jt1 0 ≤ nI (y 1) ∧ nI (y 1) ≤ jt2 0 from ok.2.1)] at e0
  rw [if_pos (show jt1 1 ≤ nI (y 2) ∧ nI (y 2) ≤ jt2 1 from ok.2.2.1)] at e1
  rw [if_pos (show jt1 2 ≤ nI (y 3) ∧ nI (y 3) ≤ jt2 2 from ok.2.2.2.1)] at e2
  rw [if_pos (show jt1 3 ≤ nI (y 4) ∧ nI (y 4) ≤ jt2 3 from ok.2.2.2.2)] at e3
  refine Ct_of jmX7_adds [some (.ref 51), some (.int (nI l)), some (.int (nI (y 0))), some (.int (nI (y 1))), some (.int (nI (y 2))), some (.int (nI (y 3))), some (.int (nI (y 4))), none] (Nat.le_of_ble_eq_true rfl) rfl ?_
  show J X RX7 cX7_adds 8 _ (some .int) _ 0 _ _ _
  refine J_iload_2 dX7_adds_0 ?_
  refine J_cS1i dX7_adds_1 jmX7_isReel ms_X7_74 (Nat.le_of_ble_eq_true rfl) (by decide) (m_reelT oky.1) ?_
  refine J_if_eq (tgt := 42) dX7_adds_4 (by decide) (fun c => absurd c (by decide)) (fun _ => ?_)
  refine J_iconst (v := nI 0) dX7_adds_7 (by decide) ?_
  refine J_iload_3 dX7_adds_8 ?_
  refine J_cS2i dX7_adds_9 jmX7_isWell ms_X7_78 (Nat.le_of_ble_eq_true rfl) (by decide) (e0) ?_
  refine J_if_eq (tgt := 42) dX7_adds_12 (by decide) (fun c => absurd c (by decide)) (fun _ => ?_)
  refine J_iconst (v := nI 1) dX7_adds_15 (by decide) ?_
  refine J_iload_4 dX7_adds_16 ?_
  refine J_cS2i dX7_adds_18 jmX7_isWell ms_X7_78 (Nat.le_of_ble_eq_true rfl) (by decide) (e1) ?_
  refine J_if_eq (tgt := 42) dX7_adds_21 (by decide) (fun c => absurd c (by decide)) (fun _ => ?_)
  refine J_iconst (v := nI 2) dX7_adds_24 (by decide) ?_
  refine J_iload_5 dX7_adds_25 ?_
  refine J_cS2i dX7_adds_27 jmX7_isWell ms_X7_78 (Nat.le_of_ble_eq_true rfl) (by decide) (e2) ?_
  refine J_if_eq (tgt := 42) dX7_adds_30 (by decide) (fun c => absurd c (by decide)) (fun _ => ?_)
  refine J_iconst (v := nI 3) dX7_adds_33 (by decide) ?_
  refine J_iload_6 dX7_adds_34 ?_
  refine J_cS2i dX7_adds_36 jmX7_isWell ms_X7_78 (Nat.le_of_ble_eq_true rfl) (by decide) (e3) ?_
  refine J_if_ne (tgt := 45) dX7_adds_39 (by decide) (fun _ => ?_) (fun c => absurd c (by decide))
  refine J_aload_0 dX7_adds_45 ?_
  refine J_get dX7_adds_46 fl_X7_7 h0 rfl ?_
  refine J_iload_1 dX7_adds_49 ?_
  refine J_iald dX7_adds_50 hm rfl (by omega) (by omega) ?_
  refine J_topi (b := nI 8) ((hm0 l hl).trans (by rw [hn])) ?_
  refine J_bipush (v := nI 8) dX7_adds_51 (by decide) ?_
  refine J_icmp_ne (tgt := 59) dX7_adds_53 (by decide) (fun c => absurd c (fun z => z rfl)) (fun _ => ?_)
  refine J_bipush (v := -4) dX7_adds_56 (by decide) ?_
  exact J_iret dX7_adds_58 rfl (⟨rfl, rfl⟩)
theorem m_adds_ok (p : mdAt h D tb F) {l : Nat} {y : Nat → Nat} (hl : l < 2) (ok : edI (nI (y 0)) (nI (y 1)) (nI (y 2)) (nI (y 3)) (nI (y 4))) (oky : edOk y) (hn : dn D l < 8) : Ct X mX7_adds 2 [.ref 51, .int (nI l), .int (nI (y 0)), .int (nI (y 1)), .int (nI (y 2)), .int (nI (y 3)), .int (nI (y 4))] h (fun r h' => r = some (.int (nI (dn D l + 1))) ∧ moAt h' (dAdd D l y) ∧ offB h h' 51 71) := by
  obtain ⟨h0, ⟨fm, hm, hm0⟩, ⟨a0, a1, a2, a3, a4⟩, -⟩ := id p
  have e0 := m_well (X := X) (h := h) (w := 0) (v := nI (y 1)) (by decide)
  have e1 := m_well (X := X) (h := h) (w := 1) (v := nI (y 2)) (by decide)
  have e2 := m_well (X := X) (h := h) (w := 2) (v := nI (y 3)) (by decide)
  have e3 := m_well (X := X) (h := h) (w := 3) (v := nI (y 4)) (by decide)
  rw [if_pos (show jt1 0 ≤ nI (y 1) ∧ nI (y 1) ≤ jt2 0 from ok.2.1)] at e0
  rw [if_pos (show jt1 1 ≤ nI (y 2) ∧ nI (y 2) ≤ jt2 1 from ok.2.2.1)] at e1
  rw [if_pos (show jt1 2 ≤ nI (y 3) ∧ nI (y 3) ≤ jt2 2 from ok.2.2.2.1)] at e2
  rw [if_pos (show jt1 3 ≤ nI (y 4) ∧ nI (y 4) ≤ jt2 3 from ok.2.2.2.2)] at e3
  have el := hm0 l hl
  have pf := md_add p hl oky hn hm0
  refine Ct_of jmX7_adds [some (.ref 51), some (.int (nI l)), some (.int (nI (y 0))), some (.int (nI (y 1))), some (.int (nI (y 2))), some (.int (nI (y 3))), some (.int (nI (y 4))), none] (Nat.le_of_ble_eq_true rfl) rfl ?_
  show J X RX7 cX7_adds 8 _ (some .int) _ 0 _ _ _
  refine J_iload_2 dX7_adds_0 ?_
  refine J_cS1i dX7_adds_1 jmX7_isReel ms_X7_74 (Nat.le_of_ble_eq_true rfl) (by decide) (m_reelT oky.1) ?_
  refine J_if_eq (tgt := 42) dX7_adds_4 (by decide) (fun c => absurd c (by decide)) (fun _ => ?_)
  refine J_iconst (v := nI 0) dX7_adds_7 (by decide) ?_
  refine J_iload_3 dX7_adds_8 ?_
  refine J_cS2i dX7_adds_9 jmX7_isWell ms_X7_78 (Nat.le_of_ble_eq_true rfl) (by decide) (e0) ?_
  refine J_if_eq (tgt := 42) dX7_adds_12 (by decide) (fun c => absurd c (by decide)) (fun _ => ?_)
  refine J_iconst (v := nI 1) dX7_adds_15 (by decide) ?_
  refine J_iload_4 dX7_adds_16 ?_
  refine J_cS2i dX7_adds_18 jmX7_isWell ms_X7_78 (Nat.le_of_ble_eq_true rfl) (by decide) (e1) ?_
  refine J_if_eq (tgt := 42) dX7_adds_21 (by decide) (fun c => absurd c (by decide)) (fun _ => ?_)
  refine J_iconst (v := nI 2) dX7_adds_24 (by decide) ?_
  refine J_iload_5 dX7_adds_25 ?_
  refine J_cS2i dX7_adds_27 jmX7_isWell ms_X7_78 (Nat.le_of_ble_eq_true rfl) (by decide) (e2) ?_
  refine J_if_eq (tgt := 42) dX7_adds_30 (by decide) (fun c => absurd c (by decide)) (fun _ => ?_)
  refine J_iconst (v := nI 3) dX7_adds_33 (by decide) ?_
  refine J_iload_6 dX7_adds_34 ?_
  refine J_cS2i dX7_adds_36 jmX7_isWell ms_X7_78 (Nat.le_of_ble_eq_true rfl) (by decide) (e3) ?_
  refine J_if_ne (tgt := 45) dX7_adds_39 (by decide) (fun _ => ?_) (fun c => absurd c (by decide))
  refine J_aload_0 dX7_adds_45 ?_
  refine J_get dX7_adds_46 fl_X7_7 h0 rfl ?_
  refine J_iload_1 dX7_adds_49 ?_
  refine J_iald dX7_adds_50 hm rfl (by omega) (by omega) ?_
  refine J_topi (b := nI (dn D l)) (el) ?_
  refine J_bipush (v := nI 8) dX7_adds_51 (by decide) ?_
  refine J_icmp_neN (tgt := 59) dX7_adds_53 (by decide) (by omega) (by omega) (fun _ => ?_) (fun c => absurd c (by omega))
  refine J_bipush (v := nI 8) dX7_adds_59 (by decide) ?_
  refine J_iload_1 dX7_adds_61 ?_
  first | refine J_imulN dX7_adds_62 ?_ | refine J_imul dX7_adds_62 ?_
  refine J_aload_0 dX7_adds_63 ?_
  refine J_get dX7_adds_64 fl_X7_7 h0 rfl ?_
  refine J_iload_1 dX7_adds_67 ?_
  refine J_iald dX7_adds_68 hm rfl (by omega) (by omega) ?_
  refine J_topi (b := nI (dn D l)) (el) ?_
  first | refine J_iaddN dX7_adds_69 ?_ | refine J_iadd dX7_adds_69 ?_
  refine J_istore_7 dX7_adds_70 (Nat.le_of_ble_eq_true rfl) rfl ?_
  refine J_aload_0 dX7_adds_72 ?_
  refine J_get dX7_adds_73 fl_X7_13 h0 rfl ?_
  refine J_iload_7 dX7_adds_76 ?_
  refine J_iload_2 dX7_adds_78 ?_
  refine J_iast dX7_adds_79 a0 rfl (by omega) (by omega) ?_
  refine J_aload_0 dX7_adds_80 ?_
  refine J_get dX7_adds_81 fl_X7_16 (hAt_ne h0 (by omega)) rfl ?_
  refine J_iload_7 dX7_adds_84 ?_
  refine J_iload_3 dX7_adds_86 ?_
  refine J_iast dX7_adds_87 (hAt_ne a1 (by omega)) rfl (by omega) (by omega) ?_
  refine J_aload_0 dX7_adds_88 ?_
  refine J_get dX7_adds_89 fl_X7_19 (hAt_ne (hAt_ne h0 (by omega)) (by omega)) rfl ?_
  refine J_iload_7 dX7_adds_92 ?_
  refine J_iload_4 dX7_adds_94 ?_
  refine J_iast dX7_adds_96 (hAt_ne (hAt_ne a2 (by omega)) (by omega)) rfl (by omega) (by omega) ?_
  refine J_aload_0 dX7_adds_97 ?_
  refine J_get dX7_adds_98 fl_X7_22 (hAt_ne (hAt_ne (hAt_ne h0 (by omega)) (by omega)) (by omega)) rfl ?_
  refine J_iload_7 dX7_adds_101 ?_
  refine J_iload_5 dX7_adds_103 ?_
  refine J_iast dX7_adds_105 (hAt_ne (hAt_ne (hAt_ne a3 (by omega)) (by omega)) (by omega)) rfl (by omega) (by omega) ?_
  refine J_aload_0 dX7_adds_106 ?_
  refine J_get dX7_adds_107 fl_X7_25 (hAt_ne (hAt_ne (hAt_ne (hAt_ne h0 (by omega)) (by omega)) (by omega)) (by omega)) rfl ?_
  refine J_iload_7 dX7_adds_110 ?_
  refine J_iload_6 dX7_adds_112 ?_
  refine J_iast dX7_adds_114 (hAt_ne (hAt_ne (hAt_ne (hAt_ne a4 (by omega)) (by omega)) (by omega)) (by omega)) rfl (by omega) (by omega) ?_
  refine J_aload_0 dX7_adds_115 ?_
  refine J_get dX7_adds_116 fl_X7_7 (hAt_ne (hAt_ne (hAt_ne (hAt_ne (hAt_ne h0 (by omega)) (by omega)) (by omega)) (by omega)) (by omega)) rfl ?_
  refine J_iload_1 dX7_adds_119 ?_
  refine J_dup2 dX7_adds_120 rfl rfl ?_
  refine J_iald dX7_adds_121 (hAt_ne (hAt_ne (hAt_ne (hAt_ne (hAt_ne hm (by omega)) (by omega)) (by omega)) (by omega)) (by omega)) rfl (by omega) (by omega) ?_
  refine J_topi (b := nI (dn D l)) (el) ?_
  refine J_iconst (v := nI 1) dX7_adds_122 (by decide) ?_
  first | refine J_iaddN dX7_adds_123 ?_ | refine J_iadd dX7_adds_123 ?_
  refine J_iast dX7_adds_124 (hAt_ne (hAt_ne (hAt_ne (hAt_ne (hAt_ne hm (by omega)) (by omega)) (by omega)) (by omega)) (by omega)) rfl (by omega) (by omega) ?_
  refine J_aload_0 dX7_adds_125 ?_
  refine J_get dX7_adds_126 fl_X7_7 pf.1 rfl ?_
  refine J_iload_1 dX7_adds_129 ?_
  refine J_iald dX7_adds_130 (hAt_s hm.1) rfl (by omega) (by omega) ?_
  refine J_topi (b := nI (dn D l + 1)) (if_pos rfl) ?_
  exact J_iret dX7_adds_131 rfl (⟨rfl, ⟨_, _, pf⟩, (((((offB.rf.hu (by omega) (by omega)).hu (by omega) (by omega)).hu (by omega) (by omega)).hu (by omega) (by omega)).hu (by omega) (by omega)).hu (by omega) (by omega)⟩)
end
