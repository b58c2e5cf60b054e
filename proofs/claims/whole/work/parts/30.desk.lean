/-! THE STATE that class and reference share: sizes of the lists, their EDITS, settings, lengths, sheets (lost, form, size, items), the latest finding -/
abbrev DS : Type := (Nat → Nat) × (Nat → Nat → Nat → Nat) × (Nat → Nat) × (Nat → Nat) × (Nat → Bool × Nat × Nat × (Nat → Int32)) × Nat
def dn (D : DS) (l : Nat) : Nat := D.1 l
def de (D : DS) (l : Nat) : Nat → Nat → Nat := D.2.1 l
def dst (D : DS) (i : Nat) : Nat := D.2.2.1 i
def dl (D : DS) (r : Nat) : Nat := D.2.2.2.1 r
def dsh (D : DS) (s : Nat) : Bool × Nat × Nat × (Nat → Int32) := D.2.2.2.2.1 s
def dfi (D : DS) : Nat := D.2.2.2.2.2
def dok (D : DS) : Prop := dst D 0 < 3 ∧ dst D 1 ≤ 500 ∧ dst D 2 ≤ 500 ∧ (∀ r, r < 6 → 1 ≤ dl D r ∧ dl D r ≤ 200000) ∧ dfi D ≤ 5 ∧ (∀ l, l < 2 → dn D l ≤ 8) ∧ (∀ l e, l < 2 → e < dn D l → edOk (de D l e)) ∧ ∀ s, s < 4 → (dsh D s).2.1 < 3 ∧ (dsh D s).2.2.1 ≤ 60
/-- the class's object (cell 0) and all its cells (to 50); ca: where its Cuts lie; xs: its EDITS, those that do not count too -/
def dkAt (h : HF) (D : DS) (ca : Nat → Nat) (xs : Nat → Nat → Nat → Nat) : Prop :=
  hAt h 0 (oB 5 [.ref 1, .ref 2, .ref 3, .ref 4, .ref 5, .ref 6, .ref 11, .int (nI (dfi D))]) ∧
  (∃ f : Nat → Option Nat, hAt h 1 (oR 3 2 f) ∧ ∀ l, l < 2 → f l = some (ca l)) ∧ ((ca 0 = 13 ∧ ca 1 = 23) ∨ (ca 0 = 23 ∧ ca 1 = 13)) ∧
  (∀ l, l < 2 → cutAt h (ca l) (dn D l) (xs l)) ∧
  (∃ f : Nat → Int32, hAt h 2 (oA 0 6 f) ∧ ∀ j, j < 6 → f j = nI (dl D j)) ∧
  (∃ f : Nat → Int32, hAt h 3 (oA 0 3 f) ∧ ∀ j, j < 3 → f j = nI (dst D j)) ∧
  (∃ f : Nat → Option Nat, hAt h 4 (oR 4 4 f) ∧ ∀ s, s < 4 → f s = some (43 + 2 * s)) ∧
  (∀ s, s < 4 → shAt h (43 + 2 * s) (dsh D s).1 (dsh D s).2.1 (dsh D s).2.2.1 (dsh D s).2.2.2) ∧
  (∃ f : Nat → Option Nat, hAt h 5 (oR 5 2 f) ∧ ∀ l, l < 2 → f l = some (33 + 5 * l)) ∧
  (∃ n g, spAt h 6 16 n g) ∧ (∀ l, l < 2 → ∃ n g, spAt h (33 + 5 * l) 8 n g) ∧ (∃ t f, maAt h 11 t f) ∧
  (∀ l e, l < 2 → e < dn D l → xs l e = de D l e) ∧ dok D
def DeskAt (h : HF) (D : DS) : Prop := ∃ ca xs, dkAt h D ca xs
theorem sh_other {h h' : HF} {a form n : Nat} {lost : Bool} {it : Nat → Int32} (p : shAt h a lost form n it) (hq : ∀ b, a ≤ b → b < a + 2 → h' b = h b) : shAt h' a lost form n it := by
  obtain ⟨h0, ⟨f, h1, h2⟩, h3⟩ := p
  exact ⟨⟨h0.1, (hq _ (by omega) (by omega)).trans h0.2⟩, ⟨f, ⟨h1.1, (hq _ (by omega) (by omega)).trans h1.2⟩, h2⟩, h3⟩
/-- changed only where nobody looks: outside the class's cells, or in its rows that are worked out anew -/
theorem dk_off {h h' : HF} {D : DS} {ca : Nat → Nat} {xs : Nat → Nat → Nat → Nat} (p : dkAt h D ca xs) (hq : ∀ b, b < 6 ∨ (13 ≤ b ∧ b < 33) ∨ (43 ≤ b ∧ b < 51) → h' b = h b) (h6 : ∃ n g, spAt h' 6 16 n g) (h33 : ∀ l, l < 2 → ∃ n g, spAt h' (33 + 5 * l) 8 n g) (h11 : ∃ t f, maAt h' 11 t f) : dkAt h' D ca xs := by
  obtain ⟨h0, ⟨fc, hfc, hfc0⟩, hca, hcut, ⟨fl, hfl, hfl0⟩, ⟨fs, hfs, hfs0⟩, ⟨fh, hfh, hfh0⟩, hsh, ⟨fp, hfp, hfp0⟩, -, -, -, hok⟩ := p
  have m : ∀ {a : Nat} {c : AE}, hAt h a c → (a < 6 ∨ (13 ≤ a ∧ a < 33) ∨ (43 ≤ a ∧ a < 51)) → hAt h' a c := fun q r => ⟨q.1, (hq _ r).trans q.2⟩
  refine ⟨m h0 (by omega), ⟨fc, m hfc (by omega), hfc0⟩, hca, fun l hl => cut_other (hcut l hl) (fun b l1 u => hq b ?_), ⟨fl, m hfl (by omega), hfl0⟩, ⟨fs, m hfs (by omega), hfs0⟩, ⟨fh, m hfh (by omega), hfh0⟩, fun s hs => sh_other (hsh s hs) (fun b l u => hq b (by omega)), ⟨fp, m hfp (by omega), hfp0⟩, h6, h33, h11, hok⟩
  rcases (show l = 0 ∨ l = 1 by omega) with rfl | rfl <;> omega
theorem dk_same {h h' : HF} {D : DS} {ca : Nat → Nat} {xs : Nat → Nat → Nat → Nat} (p : dkAt h D ca xs) (hq : ∀ b, b < 51 → h' b = h b) : dkAt h' D ca xs := by
  refine dk_off p (fun b hb => hq b (by omega)) ?_ ?_ ?_
  · obtain ⟨n, g, q⟩ := p.2.2.2.2.2.2.2.2.2.1
    exact ⟨n, g, sp_other q (fun b l u => hq b (by omega))⟩
  · intro l hl
    obtain ⟨n, g, q⟩ := p.2.2.2.2.2.2.2.2.2.2.1 l hl
    exact ⟨n, g, sp_other q (fun b l u => hq b (by omega))⟩
  · obtain ⟨t, f, q⟩ := p.2.2.2.2.2.2.2.2.2.2.2.1
    exact ⟨t, f, ma_other q (fun b l u => hq b (by omega))⟩
theorem DeskAt.off {h h' : HF} {D : DS} (p : DeskAt h D) (hq : ∀ b, b < 51 → h' b = h b) : DeskAt h' D := by
  obtain ⟨ca, xs, p⟩ := p
  exact ⟨ca, xs, dk_same p hq⟩
/-- numbers between two others -/
theorem rngN {v : Int32} {a b : Nat} (ha : a < 2 ^ 31) (hb : b < 2 ^ 31) (h : nI a ≤ v ∧ v ≤ nI b) : ∃ j, a ≤ j ∧ j ≤ b ∧ v = nI j := by
  have h0 : ¬ v < 0 := fun z => by
    have e1 := Int32.le_iff_toInt_le.mp h.1
    have e2 := Int32.lt_iff_toInt_lt.mp z
    rw [nI_toInt ha] at e1
    rw [Int32.toInt_zero] at e2
    omega
  obtain ⟨j, hj, rfl⟩ := nI_of h0
  exact ⟨j, (nI_leI ha hj).mp h.1, (nI_leI hj hb).mp h.2, rfl⟩
/-- what may be an EDIT -/
def edI (r i m p q : Int32) : Prop := (0 ≤ r ∧ r < nI 6) ∧ (nI 0 ≤ i ∧ i ≤ nI 199999) ∧ (nI 1 ≤ m ∧ m ≤ nI 500) ∧ (nI 0 ≤ p ∧ p ≤ nI 6) ∧ (nI 1 ≤ q ∧ q ≤ nI 6)
theorem edI_spec {r i m p q : Int32} (h : edI r i m p q) : ∃ y : Nat → Nat, edOk y ∧ r = nI (y 0) ∧ i = nI (y 1) ∧ m = nI (y 2) ∧ p = nI (y 3) ∧ q = nI (y 4) := by
  obtain ⟨h1, h2, h3, h4, h5⟩ := h
  obtain ⟨j1, a1, rfl⟩ : ∃ j, j < 6 ∧ r = nI j := by
    rcases ix_cases r 6 (by decide) with z | z
    · exact z
    · exact absurd h1 z
  obtain ⟨j2, a2, b2, rfl⟩ := rngN (by decide) (by decide) h2
  obtain ⟨j3, a3, b3, rfl⟩ := rngN (by decide) (by decide) h3
  obtain ⟨j4, a4, b4, rfl⟩ := rngN (by decide) (by decide) h4
  obtain ⟨j5, a5, b5, rfl⟩ := rngN (by decide) (by decide) h5
  exact ⟨fun k => if k = 0 then j1 else if k = 1 then j2 else if k = 2 then j3 else if k = 3 then j4 else j5, ⟨a1, by show j2 < 200000; omega, a3, b3, b4, a5, b5⟩, rfl, rfl, rfl, rfl, rfl⟩
/-- what part w may be -/
def ptI (w : Nat) (v : Int32) : Prop := jt1 w ≤ v ∧ v ≤ jt2 w
section
variable {X : Cx} {h : HF}
theorem c_mayPart {w : Nat} (hw : w < 4) {v : Int32} : CtI X mX6_mayBePart 1 [.int (nI w), .int v] h (if jt1 w ≤ v ∧ v ≤ jt2 w then 1 else 0) := by
  refine Ct_of jmX6_mayBePart [some (.int (nI w)), some (.int v)] (Nat.le_of_ble_eq_true rfl) rfl ?_
  show J X RX6 cX6_mayBePart 2 _ (some .boolean) _ 0 _ _ _
  refine J_iload_0 dX6_mayBePart_0 ?_
  refine J_gs2 dX6_mayBePart_1 fs_X6_116 ?_
  refine J_tn2 dX6_mayBePart_4 ?_
  refine J_cS2i dX6_mayBePart_5 jmX6_isBelow ms_X6_60 (Nat.le_of_ble_eq_true rfl) (by decide) (c_below hw (by decide)) ?_
  refine J_if_eq (tgt := 44) dX6_mayBePart_8 (by decide) (fun c => absurd c (by decide)) (fun _ => ?_)
  refine J_iload_0 dX6_mayBePart_11 ?_
  refine J_gs1 dX6_mayBePart_12 fs_X6_119 ?_
  refine J_tn1 dX6_mayBePart_15 ?_
  refine J_cS2i dX6_mayBePart_16 jmX6_isBelow ms_X6_60 (Nat.le_of_ble_eq_true rfl) (by decide) (c_below hw (by decide)) ?_
  refine J_if_eq (tgt := 44) dX6_mayBePart_19 (by decide) (fun c => absurd c (by decide)) (fun _ => ?_)
  refine J_iload_1 dX6_mayBePart_22 ?_
  refine J_gs1 dX6_mayBePart_23 fs_X6_119 ?_
  refine J_iload_0 dX6_mayBePart_26 ?_
  refine J_tl1 dX6_mayBePart_27 rfl (by omega) ?_
  refine J_icmp_lt (tgt := 44) dX6_mayBePart_28 (by decide) (fun c28 => ?_) (fun c28 => ?_)
  · have e : (if jt1 w ≤ v ∧ v ≤ jt2 w then (1 : Int32) else 0) = 0 := if_neg (by first | exact (fun z => absurd z.2 (Int32.not_le.mpr c37)) | exact (fun z => absurd z.1 (Int32.not_le.mpr c28)))
    refine J_iconst (v := nI 0) dX6_mayBePart_44 (by decide) ?_
    exact J_zret dX6_mayBePart_45 rfl (by first | exact Or.inl rfl | exact Or.inr rfl | exact bI_01 _) (⟨by rw [e]; rfl, rfl⟩)
  · refine J_iload_1 dX6_mayBePart_31 ?_
    refine J_gs2 dX6_mayBePart_32 fs_X6_116 ?_
    refine J_iload_0 dX6_mayBePart_35 ?_
    refine J_tl2 dX6_mayBePart_36 rfl (by omega) ?_
    refine J_icmp_gt (tgt := 44) dX6_mayBePart_37 (by decide) (fun c37 => ?_) (fun c37 => ?_)
    · have e : (if jt1 w ≤ v ∧ v ≤ jt2 w then (1 : Int32) else 0) = 0 := if_neg (by first | exact (fun z => absurd z.2 (Int32.not_le.mpr c37)) | exact (fun z => absurd z.1 (Int32.not_le.mpr c28)))
      refine J_iconst (v := nI 0) dX6_mayBePart_44 (by decide) ?_
      exact J_zret dX6_mayBePart_45 rfl (by first | exact Or.inl rfl | exact Or.inr rfl | exact bI_01 _) (⟨by rw [e]; rfl, rfl⟩)
    · refine J_iconst (v := nI 1) dX6_mayBePart_40 (by decide) ?_
      have e : (if jt1 w ≤ v ∧ v ≤ jt2 w then (1 : Int32) else 0) = 1 := if_pos ⟨Int32.not_lt.mp c28, Int32.not_lt.mp c37⟩
      refine J_goto (tgt := 45) dX6_mayBePart_41 (by decide) ?_
      exact J_zret dX6_mayBePart_45 rfl (by first | exact Or.inl rfl | exact Or.inr rfl | exact bI_01 _) (⟨by rw [e]; rfl, rfl⟩)
theorem c_mayPartNo {u v : Int32} (hu : ¬ (0 ≤ u ∧ u < nI 4)) : CtI X mX6_mayBePart 1 [.int u, .int v] h 0 := by
  refine Ct_of jmX6_mayBePart [some (.int u), some (.int v)] (Nat.le_of_ble_eq_true rfl) rfl ?_
  show J X RX6 cX6_mayBePart 2 _ (some .boolean) _ 0 _ _ _
  refine J_iload_0 dX6_mayBePart_0 ?_
  refine J_gs2 dX6_mayBePart_1 fs_X6_116 ?_
  refine J_tn2 dX6_mayBePart_4 ?_
  refine J_cS2i dX6_mayBePart_5 jmX6_isBelow ms_X6_60 (Nat.le_of_ble_eq_true rfl) (by decide) (c_nbelow hu) ?_
  refine J_if_eq (tgt := 44) dX6_mayBePart_8 (by decide) (fun _ => ?_) (fun c => absurd (by decide) c)
  refine J_iconst (v := nI 0) dX6_mayBePart_44 (by decide) ?_
  exact J_zret dX6_mayBePart_45 rfl (by first | exact Or.inl rfl | exact Or.inr rfl | exact bI_01 _) (⟨rfl, rfl⟩)
theorem jt_1 : jt1 0 = nI 0 ∧ jt1 1 = nI 1 ∧ jt1 2 = nI 0 ∧ jt1 3 = nI 1 := ⟨rfl, rfl, rfl, rfl⟩
theorem jt_2 : jt2 0 = nI 199999 ∧ jt2 1 = nI 500 ∧ jt2 2 = nI 6 ∧ jt2 3 = nI 6 := ⟨rfl, rfl, rfl, rfl⟩
theorem c_mayEdit {r i m p q : Int32} (hd : Decidable (edI r i m p q)) : CtI X mX6_mayBeEdit 2 [.int r, .int i, .int m, .int p, .int q] h (if edI r i m p q then 1 else 0) := by
  have e0 := c_mayPart (X := X) (h := h) (w := 0) (v := i) (by decide)
  have e1 := c_mayPart (X := X) (h := h) (w := 1) (v := m) (by decide)
  have e2 := c_mayPart (X := X) (h := h) (w := 2) (v := p) (by decide)
  have e3 := c_mayPart (X := X) (h := h) (w := 3) (v := q) (by decide)
  refine Ct_of jmX6_mayBeEdit [some (.int r), some (.int i), some (.int m), some (.int p), some (.int q)] (Nat.le_of_ble_eq_true rfl) rfl ?_
  show J X RX6 cX6_mayBeEdit 5 _ (some .boolean) _ 0 _ _ _
  refine J_iload_0 dX6_mayBeEdit_0 ?_
  refine J_bipush (v := nI 6) dX6_mayBeEdit_1 (by decide) ?_
  refine J_cS2i dX6_mayBeEdit_3 jmX6_isBelow ms_X6_60 (Nat.le_of_ble_eq_true rfl) (by decide) (c_isBelow) ?_
  first | refine J_if_eqB (tgt := 46) dX6_mayBeEdit_6 (by decide) (fun c6 => ?_) (fun c6 => ?_) | refine J_if_eqN (tgt := 46) dX6_mayBeEdit_6 (by decide) (by omega) (fun c6 => ?_) (fun c6 => ?_) | refine J_if_eq (tgt := 46) dX6_mayBeEdit_6 (by decide) (fun c6 => ?_) (fun c6 => ?_)
  · have e : (if edI r i m p q then (1 : Int32) else 0) = 0 := if_neg (by first | exact (fun z => c39 z.2.2.2.2) | exact (fun z => c30 z.2.2.2.1) | exact (fun z => c22 z.2.2.1) | exact (fun z => c14 z.2.1) | exact (fun z => c6 z.1))
    refine J_iconst (v := nI 0) dX6_mayBeEdit_46 (by decide) ?_
    exact J_zret dX6_mayBeEdit_47 rfl (by first | exact Or.inl rfl | exact Or.inr rfl | exact bI_01 _) (⟨by rw [e]; rfl, rfl⟩)
  · refine J_iconst (v := nI 0) dX6_mayBeEdit_9 (by decide) ?_
    refine J_iload_1 dX6_mayBeEdit_10 ?_
    refine J_cS2i dX6_mayBeEdit_11 jmX6_mayBePart ms_X6_83 (Nat.le_of_ble_eq_true rfl) (by decide) (e0) ?_
    refine J_topi (b := bI (jt1 0 ≤ i ∧ i ≤ jt2 0)) (rfl) ?_
    first | refine J_if_eqB (tgt := 46) dX6_mayBeEdit_14 (by decide) (fun c14 => ?_) (fun c14 => ?_) | refine J_if_eqN (tgt := 46) dX6_mayBeEdit_14 (by decide) (by omega) (fun c14 => ?_) (fun c14 => ?_) | refine J_if_eq (tgt := 46) dX6_mayBeEdit_14 (by decide) (fun c14 => ?_) (fun c14 => ?_)
    · have e : (if edI r i m p q then (1 : Int32) else 0) = 0 := if_neg (by first | exact (fun z => c39 z.2.2.2.2) | exact (fun z => c30 z.2.2.2.1) | exact (fun z => c22 z.2.2.1) | exact (fun z => c14 z.2.1) | exact (fun z => c6 z.1))
      refine J_iconst (v := nI 0) dX6_mayBeEdit_46 (by decide) ?_
      exact J_zret dX6_mayBeEdit_47 rfl (by first | exact Or.inl rfl | exact Or.inr rfl | exact bI_01 _) (⟨by rw [e]; rfl, rfl⟩)
    · refine J_iconst (v := nI 1) dX6_mayBeEdit_17 (by decide) ?_
      refine J_iload_2 dX6_mayBeEdit_18 ?_
      refine J_cS2i dX6_mayBeEdit_19 jmX6_mayBePart ms_X6_83 (Nat.le_of_ble_eq_true rfl) (by decide) (e1) ?_
      refine J_topi (b := bI (jt1 1 ≤ m ∧ m ≤ jt2 1)) (rfl) ?_
      first | refine J_if_eqB (tgt := 46) dX6_mayBeEdit_22 (by decide) (fun c22 => ?_) (fun c22 => ?_) | refine J_if_eqN (tgt := 46) dX6_mayBeEdit_22 (by decide) (by omega) (fun c22 => ?_) (fun c22 => ?_) | refine J_if_eq (tgt := 46) dX6_mayBeEdit_22 (by decide) (fun c22 => ?_) (fun c22 => ?_)
      · have e : (if edI r i m p q then (1 : Int32) else 0) = 0 := if_neg (by first | exact (fun z => c39 z.2.2.2.2) | exact (fun z => c30 z.2.2.2.1) | exact (fun z => c22 z.2.2.1) | exact (fun z => c14 z.2.1) | exact (fun z => c6 z.1))
        refine J_iconst (v := nI 0) dX6_mayBeEdit_46 (by decide) ?_
        exact J_zret dX6_mayBeEdit_47 rfl (by first | exact Or.inl rfl | exact Or.inr rfl | exact bI_01 _) (⟨by rw [e]; rfl, rfl⟩)
      · refine J_iconst (v := nI 2) dX6_mayBeEdit_25 (by decide) ?_
        refine J_iload_3 dX6_mayBeEdit_26 ?_
        refine J_cS2i dX6_mayBeEdit_27 jmX6_mayBePart ms_X6_83 (Nat.le_of_ble_eq_true rfl) (by decide) (e2) ?_
        refine J_topi (b := bI (jt1 2 ≤ p ∧ p ≤ jt2 2)) (rfl) ?_
        first | refine J_if_eqB (tgt := 46) dX6_mayBeEdit_30 (by decide) (fun c30 => ?_) (fun c30 => ?_) | refine J_if_eqN (tgt := 46) dX6_mayBeEdit_30 (by decide) (by omega) (fun c30 => ?_) (fun c30 => ?_) | refine J_if_eq (tgt := 46) dX6_mayBeEdit_30 (by decide) (fun c30 => ?_) (fun c30 => ?_)
        · have e : (if edI r i m p q then (1 : Int32) else 0) = 0 := if_neg (by first | exact (fun z => c39 z.2.2.2.2) | exact (fun z => c30 z.2.2.2.1) | exact (fun z => c22 z.2.2.1) | exact (fun z => c14 z.2.1) | exact (fun z => c6 z.1))
          refine J_iconst (v := nI 0) dX6_mayBeEdit_46 (by decide) ?_
          exact J_zret dX6_mayBeEdit_47 rfl (by first | exact Or.inl rfl | exact Or.inr rfl | exact bI_01 _) (⟨by rw [e]; rfl, rfl⟩)
        · refine J_iconst (v := nI 3) dX6_mayBeEdit_33 (by decide) ?_
          refine J_iload_4 dX6_mayBeEdit_34 ?_
          refine J_cS2i dX6_mayBeEdit_36 jmX6_mayBePart ms_X6_83 (Nat.le_of_ble_eq_true rfl) (by decide) (e3) ?_
          refine J_topi (b := bI (jt1 3 ≤ q ∧ q ≤ jt2 3)) (rfl) ?_
          first | refine J_if_eqB (tgt := 46) dX6_mayBeEdit_39 (by decide) (fun c39 => ?_) (fun c39 => ?_) | refine J_if_eqN (tgt := 46) dX6_mayBeEdit_39 (by decide) (by omega) (fun c39 => ?_) (fun c39 => ?_) | refine J_if_eq (tgt := 46) dX6_mayBeEdit_39 (by decide) (fun c39 => ?_) (fun c39 => ?_)
          · have e : (if edI r i m p q then (1 : Int32) else 0) = 0 := if_neg (by first | exact (fun z => c39 z.2.2.2.2) | exact (fun z => c30 z.2.2.2.1) | exact (fun z => c22 z.2.2.1) | exact (fun z => c14 z.2.1) | exact (fun z => c6 z.1))
            refine J_iconst (v := nI 0) dX6_mayBeEdit_46 (by decide) ?_
            exact J_zret dX6_mayBeEdit_47 rfl (by first | exact Or.inl rfl | exact Or.inr rfl | exact bI_01 _) (⟨by rw [e]; rfl, rfl⟩)
          · refine J_iconst (v := nI 1) dX6_mayBeEdit_42 (by decide) ?_
            have e : (if edI r i m p q then (1 : Int32) else 0) = 1 := if_pos ⟨c6, c14, c22, c30, c39⟩
            refine J_goto (tgt := 47) dX6_mayBeEdit_43 (by decide) ?_
            exact J_zret dX6_mayBeEdit_47 rfl (by first | exact Or.inl rfl | exact Or.inr rfl | exact bI_01 _) (⟨by rw [e]; rfl, rfl⟩)
variable {D : DS} {ca : Nat → Nat} {xs : Nat → Nat → Nat → Nat}
theorem c_isEditT (p : dkAt h D ca xs) {l e : Nat} (hl : l < 2) (he : e < dn D l) : CtI X mX6_isEdit 1 [.ref 0, .int (nI l), .int (nI e)] h 1 := by
  obtain ⟨h0, ⟨fc, hfc, hfc0⟩, hca, hcut, -⟩ := id p
  have hc := (hcut l hl).1
  have hn := (hcut l hl).2.2.2
  refine Ct_of jmX6_isEdit [some (.ref 0), some (.int (nI l)), some (.int (nI e))] (Nat.le_of_ble_eq_true rfl) rfl ?_
  show J X RX6 cX6_isEdit 3 _ (some .boolean) _ 0 _ _ _
  refine J_iload_1 dX6_isEdit_0 ?_
  refine J_iconst (v := nI 2) dX6_isEdit_1 (by decide) ?_
  refine J_cS2i dX6_isEdit_2 jmX6_isBelow ms_X6_60 (Nat.le_of_ble_eq_true rfl) (by decide) (c_below hl (by decide)) ?_
  refine J_if_eq (tgt := 28) dX6_isEdit_5 (by decide) (fun c => absurd c (by decide)) (fun _ => ?_)
  refine J_iload_2 dX6_isEdit_8 ?_
  refine J_aload_0 dX6_isEdit_9 ?_
  refine J_get dX6_isEdit_10 fl_X6_11 h0 rfl ?_
  refine J_iload_1 dX6_isEdit_13 ?_
  refine J_aald dX6_isEdit_14 hfc ⟨_, rfl⟩ rfl (by omega) (by omega) (hfc0 l hl) ?_
  refine J_get dX6_isEdit_15 fl_X6_76 hc rfl ?_
  refine J_cS2i dX6_isEdit_18 jmX6_isBelow ms_X6_60 (Nat.le_of_ble_eq_true rfl) (by decide) (c_below he (by omega)) ?_
  refine J_if_eq (tgt := 28) dX6_isEdit_21 (by decide) (fun c => absurd c (by decide)) (fun _ => ?_)
  refine J_iconst (v := nI 1) dX6_isEdit_24 (by decide) ?_
  refine J_goto (tgt := 29) dX6_isEdit_25 (by decide) ?_
  exact J_zret dX6_isEdit_29 rfl (by first | exact Or.inl rfl | exact Or.inr rfl | exact bI_01 _) (⟨rfl, rfl⟩)
theorem c_isEditF (p : dkAt h D ca xs) {u v : Int32} (hu : ¬ ∃ l e, l < 2 ∧ e < dn D l ∧ u = nI l ∧ v = nI e) : CtI X mX6_isEdit 1 [.ref 0, .int u, .int v] h 0 := by
  obtain ⟨h0, ⟨fc, hfc, hfc0⟩, hca, hcut, -⟩ := id p
  refine Ct_of jmX6_isEdit [some (.ref 0), some (.int u), some (.int v)] (Nat.le_of_ble_eq_true rfl) rfl ?_
  show J X RX6 cX6_isEdit 3 _ (some .boolean) _ 0 _ _ _
  rcases ix_cases u 2 (by decide) with ⟨l, hl, rfl⟩ | hb
  · have hc := (hcut l hl).1
    have hn := (hcut l hl).2.2.2
    have hv : ¬ (0 ≤ v ∧ v < nI (dn D l)) := fun z => by
      rcases ix_cases v (dn D l) (by omega) with ⟨e, he, rfl⟩ | q
      · exact hu ⟨l, e, hl, he, rfl, rfl⟩
      · exact q z
    refine J_iload_1 dX6_isEdit_0 ?_
    refine J_iconst (v := nI 2) dX6_isEdit_1 (by decide) ?_
    refine J_cS2i dX6_isEdit_2 jmX6_isBelow ms_X6_60 (Nat.le_of_ble_eq_true rfl) (by decide) (c_below hl (by decide)) ?_
    refine J_if_eq (tgt := 28) dX6_isEdit_5 (by decide) (fun c => absurd c (by decide)) (fun _ => ?_)
    refine J_iload_2 dX6_isEdit_8 ?_
    refine J_aload_0 dX6_isEdit_9 ?_
    refine J_get dX6_isEdit_10 fl_X6_11 h0 rfl ?_
    refine J_iload_1 dX6_isEdit_13 ?_
    refine J_aald dX6_isEdit_14 hfc ⟨_, rfl⟩ rfl (by omega) (by omega) (hfc0 l hl) ?_
    refine J_get dX6_isEdit_15 fl_X6_76 hc rfl ?_
    refine J_cS2i dX6_isEdit_18 jmX6_isBelow ms_X6_60 (Nat.le_of_ble_eq_true rfl) (by decide) (c_nbelow hv) ?_
    refine J_if_eq (tgt := 28) dX6_isEdit_21 (by decide) (fun _ => ?_) (fun c => absurd (by decide) c)
    refine J_iconst (v := nI 0) dX6_isEdit_28 (by decide) ?_
    exact J_zret dX6_isEdit_29 rfl (by first | exact Or.inl rfl | exact Or.inr rfl | exact bI_01 _) (⟨rfl, rfl⟩)
  · refine J_iload_1 dX6_isEdit_0 ?_
    refine J_iconst (v := nI 2) dX6_isEdit_1 (by decide) ?_
    refine J_cS2i dX6_isEdit_2 jmX6_isBelow ms_X6_60 (Nat.le_of_ble_eq_true rfl) (by decide) (c_nbelow hb) ?_
    refine J_if_eq (tgt := 28) dX6_isEdit_5 (by decide) (fun _ => ?_) (fun c => absurd (by decide) c)
    refine J_iconst (v := nI 0) dX6_isEdit_28 (by decide) ?_
    exact J_zret dX6_isEdit_29 rfl (by first | exact Or.inl rfl | exact Or.inr rfl | exact bI_01 _) (⟨rfl, rfl⟩)
end
