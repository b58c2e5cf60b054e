/-! PULLS, as the class works them out -/
def spn (D : DS) (l e : Nat) : Nat → Nat := fun k => if k = 0 then de D l e 0 else if k = 1 then de D l e 1 - dst D 1 else if k = 2 then fl_ (de D l e) + dst D 1 else 2 ^ e
/-- EDITS e on, k of them, without w: how many spans, and which -/
def gth (D : DS) (l w e k : Nat) (s : Nat × (Nat → Nat → Nat)) : Nat × (Nat → Nat → Nat) := match k with
  | 0 => s
  | k + 1 => gth D l w (e + 1) k (if e = w then s else (s.1 + 1, insA (spn D l e) s.1 s.2))
def g00 : Nat → Nat → Nat := fun _ _ => 0
def gtD (D : DS) (l w : Nat) : Nat × (Nat → Nat → Nat) := gth D l w 0 (dn D l) (0, g00)
def pl (D : DS) (l w : Nat) : (Nat → Nat → Nat) × Nat := jnA (dst D 2) (gtD D l w).1 0 0 (gtD D l w).2
def plN (D : DS) (l w : Nat) : Nat := (pl D l w).2
def plG (D : DS) (l w : Nat) : Nat → Nat → Nat := (pl D l w).1
def agr (n : Nat) (g g' : Nat → Nat → Nat) : Prop := ∀ j, j < n → g j = g' j
theorem agr_eset {n i : Nat} {g g' : Nat → Nat → Nat} {v : Nat → Nat} (h : agr n g g') : agr n (eset g i v) (eset g' i v) := by
  intro j hj
  by_cases q : j = i
  · subst q; rw [eset_s, eset_s]
  · rw [eset_n q, eset_n q]; exact h j hj
theorem insA_hi {v : Nat → Nat} : ∀ (i : Nat) (g : Nat → Nat → Nat) (j : Nat), i < j → insA v i g j = g j := by
  intro i
  induction i with
  | zero => intro g j hj; exact eset_n (by omega)
  | succ i ih =>
    intro g j hj
    rw [insA]
    split
    · rw [ih _ j (by omega), eset_n (by omega)]
    · exact eset_n (by omega)
theorem insA_agr {v : Nat → Nat} : ∀ (i : Nat) (g g' : Nat → Nat → Nat), agr i g g' → agr (i + 1) (insA v i g) (insA v i g') := by
  intro i
  induction i with
  | zero =>
    intro g g' _ j hj
    have e : j = 0 := by omega
    subst e
    show eset g 0 v 0 = eset g' 0 v 0
    rw [eset_s, eset_s]
  | succ i ih =>
    intro g g' h
    have e := h i (by omega)
    rw [insA, insA, e]
    split
    · intro j hj
      by_cases q : j = i + 1
      · subst q
        rw [insA_hi _ _ _ (by omega), insA_hi _ _ _ (by omega), eset_s, eset_s]
      · exact ih (eset g (i + 1) (g' i)) (eset g' (i + 1) (g' i)) (agr_eset (fun j hj => h j (by omega))) j (by omega)
    · intro j hj
      by_cases q : j = i + 1
      · subst q; rw [eset_s, eset_s]
      · rw [eset_n q, eset_n q]; exact h j (by omega)
theorem jnA_agr {near n : Nat} : ∀ (k i m : Nat) (g g' : Nat → Nat → Nat), i + k = n → m ≤ i → agr n g g' → (jnA near k i m g).2 = (jnA near k i m g').2 ∧ agr n (jnA near k i m g).1 (jnA near k i m g').1 := by
  intro k
  induction k with
  | zero => intro i m g g' _ _ h; exact ⟨rfl, h⟩
  | succ k ih =>
    intro i m g g' hi hm h
    have e1 := h i (by omega)
    have e2 : 0 < m → g (m - 1) = g' (m - 1) := fun z => h (m - 1) (by omega)
    rw [jnA, jnA]
    by_cases c : 0 < m ∧ g (m - 1) 0 = g i 0 ∧ g i 1 ≤ g (m - 1) 2 + 1 + near
    · have c' : 0 < m ∧ g' (m - 1) 0 = g' i 0 ∧ g' i 1 ≤ g' (m - 1) 2 + 1 + near := by rw [← e1, ← e2 c.1]; exact c
      rw [if_pos c, if_pos c', e1, e2 c.1]
      exact ih (i + 1) m _ _ (by omega) (by omega) (agr_eset h)
    · have c' : ¬ (0 < m ∧ g' (m - 1) 0 = g' i 0 ∧ g' i 1 ≤ g' (m - 1) 2 + 1 + near) := fun z => c (by rw [e1, e2 z.1]; exact z)
      rw [if_neg c, if_neg c', e1]
      exact ih (i + 1) (m + 1) _ _ (by omega) (by omega) (agr_eset h)
/-- a property of spans that joining keeps -/
theorem insA_all {P : (Nat → Nat) → Prop} {v : Nat → Nat} (hv : P v) : ∀ (i : Nat) (g : Nat → Nat → Nat), (∀ j, j < i → P (g j)) → ∀ j, j < i + 1 → P (insA v i g j) := by
  intro i
  induction i with
  | zero =>
    intro g _ j hj
    have e : j = 0 := by omega
    subst e
    show P (eset g 0 v 0)
    rw [eset_s]; exact hv
  | succ i ih =>
    intro g h j hj
    rw [insA]
    split
    · by_cases q : j = i + 1
      · subst q
        rw [insA_hi _ _ _ (by omega), eset_s]
        exact h i (by omega)
      · exact ih _ (fun k hk => by rw [eset_n (by omega)]; exact h k (by omega)) j (by omega)
    · by_cases q : j = i + 1
      · subst q; rw [eset_s]; exact hv
      · rw [eset_n q]; exact h j (by omega)
theorem jnA_all {P : (Nat → Nat) → Prop} {near n : Nat} (hm : ∀ v w, P v → P w → P (mrg v w)) : ∀ (k i m : Nat) (g : Nat → Nat → Nat), i + k = n → m ≤ i → (∀ j, j < n → P (g j)) → (jnA near k i m g).2 ≤ n ∧ ∀ j, j < n → P ((jnA near k i m g).1 j) := by
  intro k
  induction k with
  | zero => intro i m g hi hmi h; exact ⟨by show m ≤ n; omega, h⟩
  | succ k ih =>
    intro i m g hi hmi h
    have st : ∀ (q : Nat) (v : Nat → Nat), P v → ∀ j, j < n → P (eset g q v j) := by
      intro q v hv j hj
      by_cases z : j = q
      · subst z; rw [eset_s]; exact hv
      · rw [eset_n z]; exact h j hj
    rw [jnA]
    split
    · exact ih (i + 1) m _ (by omega) (by omega) (st _ _ (hm _ _ (h _ (by omega)) (h _ (by omega))))
    · exact ih (i + 1) (m + 1) _ (by omega) (by omega) (st _ _ (h _ (by omega)))
theorem gth_agr {D : DS} {l w : Nat} : ∀ (k e : Nat) (m : Nat) (g g' : Nat → Nat → Nat), agr m g g' → (gth D l w e k (m, g)).1 = (gth D l w e k (m, g')).1 ∧ agr (gth D l w e k (m, g)).1 (gth D l w e k (m, g)).2 (gth D l w e k (m, g')).2 := by
  intro k
  induction k with
  | zero => intro e m g g' h; exact ⟨rfl, h⟩
  | succ k ih =>
    intro e m g g' h
    rw [gth, gth]
    by_cases c : e = w
    · rw [if_pos c, if_pos c]; exact ih (e + 1) m g g' h
    · rw [if_neg c, if_neg c]; exact ih (e + 1) (m + 1) _ _ (insA_agr m g g' h)
theorem gth_le {D : DS} {l w : Nat} : ∀ (k e m : Nat) (g : Nat → Nat → Nat), (gth D l w e k (m, g)).1 ≤ m + k := by
  intro k
  induction k with
  | zero => intro e m g; exact Nat.le_refl _
  | succ k ih =>
    intro e m g
    rw [gth]
    split
    · exact Nat.le_trans (ih (e + 1) m g) (by omega)
    · exact Nat.le_trans (ih (e + 1) (m + 1) (insA (spn D l e) m g)) (by omega)
theorem gth_all {D : DS} {l w : Nat} {P : (Nat → Nat) → Prop} : ∀ (k e m : Nat) (g : Nat → Nat → Nat), (∀ j, e ≤ j → j < e + k → P (spn D l j)) → (∀ j, j < m → P (g j)) → ∀ j, j < (gth D l w e k (m, g)).1 → P ((gth D l w e k (m, g)).2 j) := by
  intro k
  induction k with
  | zero => intro e m g _ h; exact h
  | succ k ih =>
    intro e m g hs h
    rw [gth]
    split
    · exact ih (e + 1) m g (fun j h1 h2 => hs j (by omega) (by omega)) h
    · exact ih (e + 1) (m + 1) _ (fun j h1 h2 => hs j (by omega) (by omega)) (insA_all (hs e (by omega) (by omega)) m g h)
def spP (v : Nat → Nat) : Prop := v 0 < 6 ∧ v 1 ≤ v 2 ∧ v 2 < 2 ^ 18 ∧ v 3 < 2 ^ 18
theorem spP_mrg (v w : Nat → Nat) (hv : spP v) (hw : spP w) : spP (mrg v w) := by
  obtain ⟨a, b, c, d⟩ := hv
  obtain ⟨a', b', c', d'⟩ := hw
  exact ⟨a, Nat.le_trans b (Nat.le_max_left _ _), Nat.max_lt.mpr ⟨c, c'⟩, Nat.or_lt_two_pow d d'⟩
theorem pow_lt8 {e : Nat} (he : e < 8) : 2 ^ e < 2 ^ 18 := Nat.pow_lt_pow_right (by decide) (by omega)
theorem spn_P {D : DS} {l e : Nat} (ok : edOk (de D l e)) (hh : dst D 1 ≤ 500) (he : e < 8) : spP (spn D l e) := by
  have h1 := last_le ok
  have h2 : de D l e 1 ≤ fl_ (de D l e) := fr_ge
  refine ⟨ok.1, ?_, ?_, pow_lt8 he⟩
  · show de D l e 1 - dst D 1 ≤ fl_ (de D l e) + dst D 1
    omega
  · show fl_ (de D l e) + dst D 1 < 2 ^ 18
    omega
theorem gtD_P {D : DS} (hd : dok D) {l w : Nat} (hl : l < 2) : ∀ j, j < (gtD D l w).1 → spP ((gtD D l w).2 j) :=
  gth_all (dn D l) 0 0 g00 (fun j _ h2 => spn_P (hd.2.2.2.2.2.2.1 l j hl (by omega)) hd.2.1 (by have := hd.2.2.2.2.2.1 l hl; omega)) (fun j hj => by omega)
theorem gtD_le {D : DS} (hd : dok D) {l w : Nat} (hl : l < 2) : (gtD D l w).1 ≤ 8 := by
  have := @gth_le D l w (dn D l) 0 0 g00
  have := hd.2.2.2.2.2.1 l hl
  unfold gtD
  omega
theorem pl_P {D : DS} (hd : dok D) {l w : Nat} (hl : l < 2) : plN D l w ≤ 8 ∧ ∀ j, j < plN D l w → spP (plG D l w j) := by
  have h := jnA_all (near := dst D 2) spP_mrg (gtD D l w).1 0 0 (gtD D l w).2 (by omega) (Nat.le_refl 0) (gtD_P hd hl)
  have h8 := @gtD_le D hd l w hl
  exact ⟨Nat.le_trans h.1 h8, fun j hj => h.2 j (Nat.lt_of_lt_of_le hj h.1)⟩
theorem spV_of {n : Nat} {g : Nat → Nat → Nat} (h : ∀ j, j < n → spP (g j)) : spV g n := fun j hj => ⟨(h j hj).1, (h j hj).2.1, Nat.lt_trans (h j hj).2.2.1 (by decide)⟩
theorem frk_agr {g g' : Nat → Nat → Nat} : ∀ (k i : Nat), (∀ j, j < i + k → g j = g' j) → frk g i k = frk g' i k := by
  intro k
  induction k with
  | zero => intro i _; rfl
  | succ k ih =>
    intro i h
    rw [frk, frk, ih (i + 1) (fun j hj => h j (by omega)), h i (by omega)]
theorem max0N {a b : Nat} (ha : a < 2 ^ 30) (hb : b < 2 ^ 30) : (if nI 0 < nI a - nI b then nI a - nI b else nI 0) = nI (a - b) := by
  have e := pk_sub_toInt ha hb
  by_cases h : b < a
  · rw [pk_sub (Nat.le_of_lt h), if_pos ((nI_ltI (by decide) (by omega)).mpr (by omega))]
  · rw [if_neg, show a - b = 0 by omega]
    rw [Int32.lt_iff_toInt_lt, e, show (nI 0).toInt = 0 from by decide]
    omega
section
variable {X : Cx} {h : HF} {D : DS} {ca : Nat → Nat} {xs : Nat → Nat → Nat → Nat}
theorem dk_pul (p : dkAt h D ca xs) {h' : HF} {l n : Nat} {g : Nat → Nat → Nat} (hl : l < 2) (ho : offB h h' (33 + 5 * l) (38 + 5 * l)) (q : spAt h' (33 + 5 * l) 8 n g) : dkAt h' D ca xs := by
  refine dk_off p (fun b hb => ho b (by omega)) ?_ ?_ ?_
  · obtain ⟨n, g, z⟩ := p.2.2.2.2.2.2.2.2.2.1
    exact ⟨n, g, sp_other z (fun b l u => ho b (by omega))⟩
  · intro j hj
    by_cases e : j = l
    · subst e; exact ⟨n, g, q⟩
    · obtain ⟨n, g, z⟩ := p.2.2.2.2.2.2.2.2.2.2.1 j hj
      exact ⟨n, g, sp_other z (fun b l u => ho b (by omega))⟩
  · obtain ⟨t, f, z⟩ := p.2.2.2.2.2.2.2.2.2.2.2.1
    exact ⟨t, f, ma_other z (fun b l u => ho b (by omega))⟩
theorem l_gather {l w : Nat} (hl : l < 2) {v : Int32} (hv : ∀ e, e < 8 → (nI e = v ↔ e = w)) {h : HF} : ∀ (k e : Nat) (h1 : HF) (m : Nat) (g : Nat → Nat → Nat) (o7 : Option Value), e + k = dn D l → m ≤ e → dkAt h1 D ca xs → spAt h1 (33 + 5 * l) 8 m g → (∀ j, j < m → spP (g j)) → offB h h1 (33 + 5 * l) (38 + 5 * l) →
    J X RX6 cX6_gather 8 2 (some (.object "CutListDesk$Spans")) (fun r h' => r = some (.ref (33 + 5 * l)) ∧ dkAt h' D ca xs ∧ (∃ g', spAt h' (33 + 5 * l) 8 (jnA (dst D 2) (gth D l w e k (m, g)).1 0 0 (gth D l w e k (m, g)).2).2 g' ∧ g' = (jnA (dst D 2) (gth D l w e k (m, g)).1 0 0 (gth D l w e k (m, g)).2).1) ∧ offB h h' (33 + 5 * l) (38 + 5 * l)) 31
      [some (.ref 0), some (.int (nI l)), some (.int v), some (.ref (33 + 5 * l)), some (.ref (ca l)), some (.int (nI (dst D 1))), some (.int (nI e)), o7] [] h1 := by
  intro k
  induction k with
  | zero =>
    intro e h1 m g o7 he hme p ps hP ho
    obtain ⟨h0, ⟨fc, hfc, hfc0⟩, hca, hcut, -, ⟨fs, hfs, hfs0⟩, hrest⟩ := id p
    have hc := (hcut l hl).1
    have hn8 := (hcut l hl).2.2.2
    have hsp := ps.1
    have e2 := hfs0 2 (by decide)
    have hd : dok D := hrest.2.2.2.2.2.2.2
    have hnear := hd.2.2.1
    have hj := c_join (X := X) ps (near := dst D 2) (by omega) (fun j hj => ⟨by have := (hP j hj).1; omega, by have := (hP j hj).2.1; have := (hP j hj).2.2.1; omega, by have := (hP j hj).2.2.1; omega, by have := (hP j hj).2.2.2; omega⟩)
    rw [← e2] at hj
    refine J_iload_6 dX6_gather_31 ?_
    refine J_aload_4 dX6_gather_33 ?_
    refine J_get dX6_gather_35 fl_X6_76 hc rfl ?_
    refine J_icmp_geN (tgt := 96) dX6_gather_38 (by decide) (by omega) (by omega) (fun _ => ?_) (fun c => absurd c (by omega))
    refine J_aload_3 dX6_gather_96 ?_
    refine J_aload_0 dX6_gather_97 ?_
    refine J_get dX6_gather_98 fl_X6_22 h0 rfl ?_
    refine J_iconst (v := nI 2) dX6_gather_101 (by decide) ?_
    refine J_iald dX6_gather_102 hfs rfl (by omega) (by omega) ?_
    refine J_cV1 dX6_gather_103 jmX5_join mv_X6_231 hsp rfl (Nat.le_of_ble_eq_true rfl) (by decide) (hj) (fun r h' q => ?_)
    obtain ⟨rfl, q1, q2, q3⟩ := q
    have q3 := q3.wide (lo' := 33 + 5 * l) (hi' := 38 + 5 * l) (Nat.le_refl _) (by omega)
    refine J_aload_3 dX6_gather_106 ?_
    exact J_aret dX6_gather_107 ⟨_, rfl⟩ (⟨rfl, dk_pul p hl q3 q1, ⟨_, q1, rfl⟩, ho.tr q3⟩)
  | succ k ih =>
    intro e h1 m g o7 he hme p ps hP ho
    obtain ⟨h0, ⟨fc, hfc, hfc0⟩, hca, hcut, -, ⟨fs, hfs, hfs0⟩, hrest⟩ := id p
    obtain ⟨hc, ⟨gg, hf, hfe⟩, hE, hn8⟩ := hcut l hl
    have hd : dok D := hrest.2.2.2.2.2.2.2
    have hh := hd.2.1
    have hag := hrest.2.2.2.2.2.2.1
    have hsp := ps.1
    by_cases hw : e = w
    · rw [show gth D l w e (k + 1) (m, g) = gth D l w (e + 1) k (m, g) from by rw [gth, if_pos hw]]
      refine J_iload_6 dX6_gather_31 ?_
      refine J_aload_4 dX6_gather_33 ?_
      refine J_get dX6_gather_35 fl_X6_76 hc rfl ?_
      refine J_icmp_geN (tgt := 96) dX6_gather_38 (by decide) (by omega) (by omega) (fun c => absurd c (by omega)) (fun _ => ?_)
      refine J_iload_6 dX6_gather_41 ?_
      refine J_iload_2 dX6_gather_43 ?_
      refine J_icmp_eq (tgt := 90) dX6_gather_44 (by decide) (fun _ => ?_) (fun c => absurd ((hv e (by omega)).mpr hw) c)
      first | refine J_inc_6 dX6_gather_90 (Nat.le_of_ble_eq_true rfl) rfl ?_ | refine J_iinc_6 dX6_gather_90 rfl (Nat.le_of_ble_eq_true rfl) rfl ?_
      refine J_goto (tgt := 31) dX6_gather_93 (by decide) ?_
      exact ih (e + 1) _ _ _ _ (by omega) (by omega) p ps hP ho
    · rw [show gth D l w e (k + 1) (m, g) = gth D l w (e + 1) k (m + 1, insA (spn D l e) m g) from by rw [gth, if_neg hw]]
      have hEe := hE e (by omega)
      rw [hag l e hl (by omega)] at hEe
      have hE1 := hEe.1
      have oE := hEe.2
      have hsP : spP (spn D l e) := spn_P oE hh (by omega)
      have hb : spB g m := fun j hj => ⟨by have := (hP j hj).1; omega, by have := (hP j hj).2.1; have := (hP j hj).2.2.1; omega, by have := (hP j hj).2.2.1; omega, by have := (hP j hj).2.2.2; omega⟩
      have hins := c_insert (X := X) ps (v := spn D l e) (by have := hsP.1; omega) (by have := hsP.2.1; have := hsP.2.2.1; omega) (by omega) hb
      have o1 := oE.2.1
      refine J_iload_6 dX6_gather_31 ?_
      refine J_aload_4 dX6_gather_33 ?_
      refine J_get dX6_gather_35 fl_X6_76 hc rfl ?_
      refine J_icmp_geN (tgt := 96) dX6_gather_38 (by decide) (by omega) (by omega) (fun c => absurd c (by omega)) (fun _ => ?_)
      refine J_iload_6 dX6_gather_41 ?_
      refine J_iload_2 dX6_gather_43 ?_
      refine J_icmp_eq (tgt := 90) dX6_gather_44 (by decide) (fun c => absurd c (fun z => hw ((hv e (by omega)).mp z))) (fun _ => ?_)
      refine J_aload_4 dX6_gather_47 ?_
      refine J_get dX6_gather_49 fl_X6_86 hc rfl ?_
      refine J_iload_6 dX6_gather_52 ?_
      refine J_aald dX6_gather_54 hf ⟨_, rfl⟩ rfl (by omega) (by omega) (hfe e (by omega)) ?_
      refine J_astore_7 dX6_gather_55 (Nat.le_of_ble_eq_true rfl) rfl ?_
      refine J_aload_3 dX6_gather_57 ?_
      refine J_aload_7 dX6_gather_58 ?_
      refine J_get dX6_gather_60 fl_X6_125 hE1 rfl ?_
      refine J_iconst (v := nI 0) dX6_gather_63 (by decide) ?_
      refine J_aload_7 dX6_gather_64 ?_
      refine J_cV0i dX6_gather_66 jmX2_first mv_X6_143 hE1 rfl (Nat.le_of_ble_eq_true rfl) (by decide) (c_first hEe) ?_
      refine J_iload_5 dX6_gather_69 ?_
      refine J_isub dX6_gather_71 ?_
      refine J_mmax dX6_gather_72 ms_X6_222 (by decide) (Nat.le_of_ble_eq_true rfl) ?_
      refine J_topi (max0N (by omega) (by omega)) ?_
      refine J_aload_7 dX6_gather_75 ?_
      refine J_cV0i dX6_gather_77 jmX2_last mv_X6_147 hE1 rfl (Nat.le_of_ble_eq_true rfl) (by decide) (c_last hEe) ?_
      refine J_iload_5 dX6_gather_80 ?_
      first | refine J_iaddN dX6_gather_82 ?_ | refine J_iadd dX6_gather_82 ?_
      refine J_iconst (v := nI 1) dX6_gather_83 (by decide) ?_
      refine J_iload_6 dX6_gather_84 ?_
      refine J_ishl dX6_gather_86 ?_
      refine J_topi (shl1 e (by omega)) ?_
      refine J_cV4 dX6_gather_87 jmX5_insert mv_X6_227 hsp rfl (Nat.le_of_ble_eq_true rfl) (by decide) (hins) (fun r h' q => ?_)
      obtain ⟨rfl, q1, q2⟩ := q
      have q2 := q2.wide (lo' := 33 + 5 * l) (hi' := 38 + 5 * l) (Nat.le_refl _) (by omega)
      first | refine J_inc_6 dX6_gather_90 (Nat.le_of_ble_eq_true rfl) rfl ?_ | refine J_iinc_6 dX6_gather_90 rfl (Nat.le_of_ble_eq_true rfl) rfl ?_
      refine J_goto (tgt := 31) dX6_gather_93 (by decide) ?_
      exact ih (e + 1) _ _ _ _ (by omega) (by omega) (dk_pul p hl q2 q1) q1 (insA_all hsP m g hP) (ho.tr q2)
/-- the row of spans of a list, as PULLS without w are in it -/
def plAt (h : HF) (D : DS) (l w : Nat) : Prop := ∃ g, spAt h (33 + 5 * l) 8 (plN D l w) g ∧ agr (plN D l w) g (plG D l w)
theorem c_gather (p : dkAt h D ca xs) {l w : Nat} (hl : l < 2) {v : Int32} (hv : ∀ e, e < 8 → (nI e = v ↔ e = w)) : Ct X mX6_gather 2 [.ref 0, .int (nI l), .int v] h (fun r h' => r = some (.ref (33 + 5 * l)) ∧ dkAt h' D ca xs ∧ plAt h' D l w ∧ offB h h' (33 + 5 * l) (38 + 5 * l)) := by
  obtain ⟨h0, ⟨fc, hfc, hfc0⟩, hca, hcut, -, ⟨fs, hfs, hfs0⟩, -, -, ⟨fp, hfp, hfp0⟩, -, hpul, hrest⟩ := id p
  obtain ⟨n, g, ps⟩ := hpul l hl
  have hsp := ps.1
  have e1 := hfs0 1 (by decide)
  have ps2 := sp_setN ps (m := 0) (Nat.zero_le _)
  have p2 := dk_pul p hl (offB.rf.hu (by omega) (by omega)) ps2
  have hd : dok D := hrest.2.2
  refine Ct_of jmX6_gather [some (.ref 0), some (.int (nI l)), some (.int v), none, none, none, none, none] (Nat.le_of_ble_eq_true rfl) rfl ?_
  show J X RX6 cX6_gather 8 _ (some (.object "CutListDesk$Spans")) _ 0 _ _ _
  refine J_aload_0 dX6_gather_0 ?_
  refine J_get dX6_gather_1 fl_X6_33 h0 rfl ?_
  refine J_iload_1 dX6_gather_4 ?_
  refine J_aald dX6_gather_5 hfp ⟨_, rfl⟩ rfl (by omega) (by omega) (hfp0 l hl) ?_
  refine J_astore_3 dX6_gather_6 (Nat.le_of_ble_eq_true rfl) rfl ?_
  refine J_aload_0 dX6_gather_7 ?_
  refine J_get dX6_gather_8 fl_X6_11 h0 rfl ?_
  refine J_iload_1 dX6_gather_11 ?_
  refine J_aald dX6_gather_12 hfc ⟨_, rfl⟩ rfl (by omega) (by omega) (hfc0 l hl) ?_
  refine J_astore_4 dX6_gather_13 (Nat.le_of_ble_eq_true rfl) rfl ?_
  refine J_aload_0 dX6_gather_15 ?_
  refine J_get dX6_gather_16 fl_X6_22 h0 rfl ?_
  refine J_iconst (v := nI 1) dX6_gather_19 (by decide) ?_
  refine J_iald dX6_gather_20 hfs rfl (by omega) (by omega) ?_
  refine J_topi (b := nI (dst D 1)) (e1) ?_
  refine J_istore_5 dX6_gather_21 (Nat.le_of_ble_eq_true rfl) rfl ?_
  refine J_aload_3 dX6_gather_23 ?_
  refine J_iconst (v := nI 0) dX6_gather_24 (by decide) ?_
  refine J_put dX6_gather_25 fp_X6_194 hsp (Nat.le_of_ble_eq_true rfl) rfl rfl ?_
  refine J_iconst (v := nI 0) dX6_gather_28 (by decide) ?_
  refine J_istore_6 dX6_gather_29 (Nat.le_of_ble_eq_true rfl) rfl ?_
  refine J_mono (l_gather hl hv (dn D l) 0 _ 0 g none (by omega) (Nat.le_refl 0) p2 ps2 (fun j hj => by omega) (offB.rf.hu (by omega) (by omega))) ?_
  rintro r h' ⟨e1, q1, ⟨g', q2, rfl⟩, q3⟩
  have a1 := gth_agr (D := D) (l := l) (w := w) (dn D l) 0 0 g g00 (fun j hj => by omega)
  have a2 := jnA_agr (near := dst D 2) _ 0 0 _ _ (Nat.zero_add _) (Nat.le_refl 0) a1.2
  have a3 := jnA_all (near := dst D 2) (P := spP) spP_mrg (gtD D l w).1 0 0 (gtD D l w).2 (by omega) (Nat.le_refl 0) (gtD_P hd hl)
  have e4 : (jnA (dst D 2) (gth D l w 0 (dn D l) (0, g)).1 0 0 (gth D l w 0 (dn D l) (0, g)).2).2 = plN D l w := by rw [a2.1, a1.1]; rfl
  refine ⟨e1, q1, ⟨_, by rw [← e4]; exact q2, fun j hj => ?_⟩, q3⟩
  have hj2 : j < (gth D l w 0 (dn D l) (0, g)).1 := by rw [a1.1]; exact Nat.lt_of_lt_of_le hj a3.1
  rw [a2.2 j hj2, a1.1]
  rfl
end
