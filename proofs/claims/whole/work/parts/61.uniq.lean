/-! PULLS are what they are: whoever joins all that are near comes to the same spans -/
def sok (D : DS) (l w : Nat) (v : Nat → Nat) : Prop := spP v ∧ (∀ e, (v 3).testBit e = true → (e < dn D l ∧ e ≠ w) ∧ spn D l e 0 = v 0 ∧ v 1 ≤ spn D l e 1 ∧ spn D l e 2 ≤ v 2) ∧ ∀ x, v 1 ≤ x → x ≤ v 2 + dst D 2 → ∃ e, (v 3).testBit e = true ∧ spn D l e 1 ≤ x ∧ x ≤ spn D l e 2 + dst D 2
def alw (D : DS) (l w n : Nat) (g : Nat → Nat → Nat) : Prop := ∀ e, e < dn D l → e ≠ w → ∃ i, i < n ∧ (g i 3).testBit e = true
def gd (D : DS) (l w n : Nat) (g : Nat → Nat → Nat) : Prop := (∀ i, i < n → sok D l w (g i)) ∧ alw D l w n g
theorem spn_bit {D : DS} {l e f : Nat} : (spn D l e 3).testBit f = true ↔ e = f := by
  show (2 ^ e).testBit f = true ↔ e = f
  rw [Nat.testBit_two_pow, decide_eq_true_eq]
theorem sok_spn {D : DS} (hd : dok D) {l w e : Nat} (hl : l < 2) (he : e < dn D l) (hw : e ≠ w) : sok D l w (spn D l e) := by
  refine ⟨spn_P (hd.2.2.2.2.2.2.1 l e hl he) hd.2.1 (by have := hd.2.2.2.2.2.1 l hl; omega), fun f hf => ?_, fun x h1 h2 => ⟨e, spn_bit.mpr rfl, h1, h2⟩⟩
  have := spn_bit.mp hf
  subst this
  exact ⟨⟨he, hw⟩, rfl, Nat.le_refl _, Nat.le_refl _⟩
theorem sok_mrg {D : DS} {l w : Nat} {a b v : Nat → Nat} (ha : sok D l w a) (hb : sok D l w b) (h0 : a 0 = b 0) (h1 : b 1 ≤ a 2 + 1 + dst D 2) (h2 : a 1 ≤ b 2 + 1 + dst D 2) (v0 : v 0 = a 0) (v1 : v 1 = min (a 1) (b 1)) (v2 : v 2 = max (a 2) (b 2)) (v3 : v 3 = a 3 ||| b 3) : sok D l w v := by
  obtain ⟨pa, ba, ca⟩ := ha
  obtain ⟨pb, bb, cb⟩ := hb
  refine ⟨⟨by rw [v0]; exact pa.1, by have := pa.2.1; omega, by have := pa.2.2.1; have := pb.2.2.1; omega, by rw [v3]; exact Nat.or_lt_two_pow pa.2.2.2 pb.2.2.2⟩, fun e he => ?_, fun x x1 x2 => ?_⟩
  · rw [v3, Nat.testBit_or, Bool.or_eq_true] at he
    rcases he with he | he
    · obtain ⟨q1, q2, q3, q4⟩ := ba e he
      exact ⟨q1, q2.trans v0.symm, by omega, by omega⟩
    · obtain ⟨q1, q2, q3, q4⟩ := bb e he
      exact ⟨q1, (q2.trans h0.symm).trans v0.symm, by omega, by omega⟩
  · have hx : (a 1 ≤ x ∧ x ≤ a 2 + dst D 2) ∨ (b 1 ≤ x ∧ x ≤ b 2 + dst D 2) := by omega
    rcases hx with ⟨y1, y2⟩ | ⟨y1, y2⟩
    · obtain ⟨e, e1, e2⟩ := ca x y1 y2
      exact ⟨e, by rw [v3, Nat.testBit_or, e1, Bool.true_or], e2⟩
    · obtain ⟨e, e1, e2⟩ := cb x y1 y2
      exact ⟨e, by rw [v3, Nat.testBit_or, e1, Bool.or_true], e2⟩
theorem gd_gth {D : DS} (hd : dok D) {l w : Nat} (hl : l < 2) : ∀ (k e m : Nat) (g : Nat → Nat → Nat), e + k = dn D l → (∀ j, j < m → sok D l w (g j)) → (∀ f, f < e → f ≠ w → ∃ i, i < m ∧ (g i 3).testBit f = true) → gd D l w (gth D l w e k (m, g)).1 (gth D l w e k (m, g)).2 := by
  intro k
  induction k with
  | zero =>
    intro e m g he h1 h2
    exact ⟨h1, fun f hf => h2 f (by omega)⟩
  | succ k ih =>
    intro e m g he h1 h2
    rw [gth]
    by_cases c : e = w
    · rw [if_pos c]
      exact ih (e + 1) m g (by omega) h1 (fun f hf hn => h2 f (by omega) hn)
    · rw [if_neg c]
      obtain ⟨p, q1, q2, q3, q4, -, -⟩ := insA_spec (v := spn D l e) m g
      refine ih (e + 1) (m + 1) _ (by omega) (insA_all (sok_spn hd hl (by omega) c) m g h1) (fun f hf hn => ?_)
      by_cases z : f = e
      · exact ⟨p, by omega, by rw [q3, z]; exact spn_bit.mpr rfl⟩
      · obtain ⟨i, hi, hb⟩ := h2 f (by omega) hn
        by_cases y : i < p
        · exact ⟨i, by omega, by rw [q2 i y]; exact hb⟩
        · exact ⟨i + 1, by omega, by rw [q4 i (by omega) hi]; exact hb⟩
theorem gd_jnA {D : DS} {l w n : Nat} : ∀ (k i m : Nat) (g : Nat → Nat → Nat), i + k = n → m ≤ i → (∀ a b, a < m → i ≤ b → b < n → leq (g a) (g b)) → (∀ a b, i ≤ a → a < b → b < n → leq (g a) (g b)) → (∀ a, a < m ∨ (i ≤ a ∧ a < n) → sok D l w (g a)) → (∀ e, e < dn D l → e ≠ w → ∃ a, (a < m ∨ (i ≤ a ∧ a < n)) ∧ (g a 3).testBit e = true) → gd D l w (jnA (dst D 2) k i m g).2 (jnA (dst D 2) k i m g).1 := by
  intro k
  induction k with
  | zero =>
    intro i m g hi hm _ _ h3 h4
    refine ⟨fun a ha => h3 a (Or.inl ha), fun e he hw => ?_⟩
    obtain ⟨a, ha, hb⟩ := h4 e he hw
    exact ⟨a, by show a < m; omega, hb⟩
  | succ k ih =>
    intro i m g hi hm h1 h2 h3 h4
    rw [jnA]
    by_cases c : 0 < m ∧ g (m - 1) 0 = g i 0 ∧ g i 1 ≤ g (m - 1) 2 + 1 + dst D 2
    · rw [if_pos c]
      have s1 := h3 (m - 1) (Or.inl (by omega))
      have s2 := h3 i (Or.inr (by omega))
      have l1 := h1 (m - 1) i (by omega) (Nat.le_refl _) (by omega)
      have ev : ∀ a, a ≠ m - 1 → eset g (m - 1) (mrg (g (m - 1)) (g i)) a = g a := fun a ha => eset_n ha
      have e0 : ∀ a, eset g (m - 1) (mrg (g (m - 1)) (g i)) a 0 = g a 0 := by
        intro a
        by_cases z : a = m - 1
        · subst z; rw [eset_s]; rfl
        · rw [ev a z]
      have e1 : ∀ a, eset g (m - 1) (mrg (g (m - 1)) (g i)) a 1 = g a 1 := by
        intro a
        by_cases z : a = m - 1
        · subst z; rw [eset_s]; rfl
        · rw [ev a z]
      have sm : sok D l w (mrg (g (m - 1)) (g i)) := by
        unfold leq at l1
        have p2 := s2.1.2.1
        refine sok_mrg s1 s2 c.2.1 c.2.2 (by omega) rfl ?_ rfl rfl
        show g (m - 1) 1 = _
        omega
      refine ih (i + 1) m _ (by omega) (by omega) ?_ ?_ ?_ ?_
      · intro a b ha hb1 hb2
        unfold leq
        rw [e0, e0, e1, e1]
        exact h1 a b ha (by omega) hb2
      · intro a b ha hab hb
        unfold leq
        rw [e0, e0, e1, e1]
        exact h2 a b (by omega) hab hb
      · intro a ha
        by_cases z : a = m - 1
        · rw [z, eset_s]; exact sm
        · rw [ev a z]; exact h3 a (by omega)
      · intro e he hw
        obtain ⟨a, ha, hb⟩ := h4 e he hw
        by_cases z : a = m - 1 ∨ a = i
        · refine ⟨m - 1, Or.inl (by omega), ?_⟩
          rw [eset_s]
          show (g (m - 1) 3 ||| g i 3).testBit e = true
          rw [Nat.testBit_or]
          rcases z with z | z
          · rw [← z, hb, Bool.true_or]
          · rw [← z, hb, Bool.or_true]
        · exact ⟨a, by omega, by rw [ev a (by omega)]; exact hb⟩
    · rw [if_neg c]
      have ev : ∀ a, a ≠ m → eset g m (g i) a = g a := fun a ha => eset_n ha
      refine ih (i + 1) (m + 1) _ (by omega) (by omega) ?_ ?_ ?_ ?_
      · intro a b ha hb1 hb2
        rw [ev b (by omega)]
        by_cases z : a = m
        · rw [z, eset_s]; exact h2 i b (Nat.le_refl _) (by omega) hb2
        · rw [ev a z]; exact h1 a b (by omega) (by omega) hb2
      · intro a b ha hab hb
        rw [ev a (by omega), ev b (by omega)]
        exact h2 a b (by omega) hab hb
      · intro a ha
        by_cases z : a = m
        · rw [z, eset_s]; exact h3 i (Or.inr (by omega))
        · rw [ev a z]; exact h3 a (by omega)
      · intro e he hw
        obtain ⟨a, ha, hb⟩ := h4 e he hw
        by_cases z : a = i
        · exact ⟨m, Or.inl (by omega), by rw [eset_s, ← z]; exact hb⟩
        · exact ⟨a, by omega, by rw [ev a (by omega)]; exact hb⟩
theorem gd_pl {D : DS} (hd : dok D) {l w : Nat} (hl : l < 2) : gd D l w (plN D l w) (plG D l w) := by
  have hs : srt (gtD D l w).2 (gtD D l w).1 := srt_gth (dn D l) 0 0 g00 (fun i j _ hj => by omega)
  have h := gd_gth hd (w := w) hl (dn D l) 0 0 g00 (by omega) (fun j hj => by omega) (fun f hf => by omega)
  refine gd_jnA (gtD D l w).1 0 0 (gtD D l w).2 (by omega) (Nat.le_refl 0) (fun a b ha => by omega) (fun a b _ hab hb => hs a b hab hb) (fun a ha => h.1 a (by show a < (gtD D l w).1; omega)) (fun e he hw => ?_)
  obtain ⟨a, ha, hb⟩ := h.2 e he hw
  exact ⟨a, Or.inr ⟨Nat.zero_le _, ha⟩, hb⟩
/-- as far as a span is read -/
def eq4 (v w : Nat → Nat) : Prop := v 0 = w 0 ∧ v 1 = w 1 ∧ v 2 = w 2 ∧ v 3 = w 3
theorem uq_half {D : DS} {l w n n' : Nat} {g g' : Nat → Nat → Nat} (h : gd D l w n g) (s : sepd (dst D 2) g n) (h' : gd D l w n' g') (s' : sepd (dst D 2) g' n') : ∀ i, i < n → ∃ j, j < n' ∧ g i 0 = g' j 0 ∧ g' j 1 ≥ g i 1 ∧ g' j 2 ≤ g i 2 ∧ ∃ e, (g i 3).testBit e = true ∧ (g' j 3).testBit e = true := by
  intro i hi
  obtain ⟨pi, bi, ci⟩ := h.1 i hi
  obtain ⟨e, e1, e2, e3⟩ := ci (g i 1) (Nat.le_refl _) (by have := pi.2.1; omega)
  obtain ⟨⟨f1, f2⟩, f3, f4, f5⟩ := bi e e1
  obtain ⟨j, hj, hb⟩ := h'.2 e f1 f2
  obtain ⟨pj, bj, cj⟩ := h'.1 j hj
  obtain ⟨-, g3, g4, g5⟩ := bj e hb
  have key : ∀ x, g' j 1 ≤ x → x ≤ g' j 2 + dst D 2 → g i 1 ≤ x + 1 → x ≤ g i 2 + dst D 2 + 1 → g i 1 ≤ x ∧ x ≤ g i 2 + dst D 2 := by
    intro x x1 x2 y1 y2
    obtain ⟨f, q1, q2, q3⟩ := cj x x1 x2
    obtain ⟨⟨r1, r2⟩, r3, r4, r5⟩ := bj f q1
    obtain ⟨u, hu, hf⟩ := h.2 f r1 r2
    obtain ⟨pu, bu, -⟩ := h.1 u hu
    obtain ⟨-, t3, t4, t5⟩ := bu f hf
    have p1 := pi.2.1
    have p2 := pu.2.1
    rcases Nat.lt_trichotomy u i with z | z | z
    · have := s u i z hi
      omega
    · subst z
      omega
    · have := s i u z hu
      omega
  have hs1 : spn D l e 1 ≤ spn D l e 2 ∨ spn D l e 2 < spn D l e 1 := by omega
  have p1 := pi.2.1
  have p2 := pj.2.1
  refine ⟨j, hj, f3.symm.trans g3, ?_, ?_, e, e1, hb⟩
  · by_cases z : g' j 1 < g i 1
    · have := key (g i 1 - 1) (by omega) (by omega) (by omega) (by omega)
      omega
    · omega
  · by_cases z : g i 2 < g' j 2
    · have := key (g i 2 + dst D 2 + 1) (by omega) (by omega) (by omega) (by omega)
      omega
    · omega
theorem uq_same {D : DS} {l w n : Nat} {g : Nat → Nat → Nat} (h : gd D l w n g) (s : sepd (dst D 2) g n) {i j e f : Nat} (hi : i < n) (hj : j < n) (h1 : (g i 3).testBit e = true) (h2 : (g j 3).testBit f = true) (h0 : g i 0 = g j 0) (h3 : spn D l f 1 ≤ spn D l f 2) (h4 : g i 1 ≤ spn D l f 1) (h5 : spn D l f 2 ≤ g i 2) : i = j := by
  obtain ⟨-, bj, -⟩ := h.1 j hj
  obtain ⟨-, t3, t4, t5⟩ := bj f h2
  rcases Nat.lt_trichotomy i j with z | z | z
  · have := s i j z hj
    omega
  · exact z
  · have := s j i z hi
    omega
theorem uq_all {D : DS} (hd : dok D) {l w n n' : Nat} (hl : l < 2) {g g' : Nat → Nat → Nat} (h : gd D l w n g) (s : sepd (dst D 2) g n) (h' : gd D l w n' g') (s' : sepd (dst D 2) g' n') : ∀ i, i < n → ∃ j, j < n' ∧ eq4 (g i) (g' j) := by
  intro i hi
  obtain ⟨j, hj, a0, a1, a2, e, e1, e2⟩ := uq_half h s h' s' i hi
  obtain ⟨i2, hi2, b0, b1, b2, f, f1, f2⟩ := uq_half h' s' h s j hj
  have sp : ∀ f, f < dn D l → spn D l f 1 ≤ spn D l f 2 := fun f hf => (spn_P (hd.2.2.2.2.2.2.1 l f hl hf) hd.2.1 (by have := hd.2.2.2.2.2.1 l hl; omega)).2.1
  obtain ⟨-, bi, -⟩ := h.1 i hi
  obtain ⟨-, bj, -⟩ := h'.1 j hj
  obtain ⟨⟨x1, x2⟩, x3, x4, x5⟩ := bj f f1
  have hii : i = i2 := uq_same h s hi hi2 e1 f2 (a0.trans b0) (sp f x1) (by omega) (by omega)
  subst hii
  have c1 : g i 1 = g' j 1 := by omega
  have c2 : g i 2 = g' j 2 := by omega
  refine ⟨j, hj, a0, c1, c2, Nat.eq_of_testBit_eq (fun k => ?_)⟩
  have fw : (g i 3).testBit k = true → (g' j 3).testBit k = true := by
    intro z
    obtain ⟨⟨y1, y2⟩, y3, y4, y5⟩ := bi k z
    obtain ⟨j2, hj2, hb⟩ := h'.2 k y1 y2
    obtain ⟨-, bj2, -⟩ := h'.1 j2 hj2
    obtain ⟨-, t3, t4, t5⟩ := bj2 k hb
    have := uq_same h' s' hj hj2 e2 hb (by omega) (sp k y1) (by omega) (by omega)
    rw [this]; exact hb
  have bw : (g' j 3).testBit k = true → (g i 3).testBit k = true := by
    intro z
    obtain ⟨⟨y1, y2⟩, y3, y4, y5⟩ := bj k z
    obtain ⟨i2, hi2, hb⟩ := h.2 k y1 y2
    obtain ⟨-, bi2, -⟩ := h.1 i2 hi2
    obtain ⟨-, t3, t4, t5⟩ := bi2 k hb
    have := uq_same h s hi hi2 e1 hb (by omega) (sp k y1) (by omega) (by omega)
    rw [this]; exact hb
  cases p : (g i 3).testBit k with
  | true => exact (fw p).symm
  | false =>
    cases q : (g' j 3).testBit k with
    | true => rw [bw q] at p; cases p
    | false => rfl
theorem uq_ge {near n n' : Nat} {g g' : Nat → Nat → Nat} (s : sepd near g n) (s' : sepd near g' n') (hv' : ∀ j, j < n' → g' j 1 ≤ g' j 2) (hE : ∀ i, i < n → ∃ j, j < n' ∧ eq4 (g i) (g' j)) : ∀ i, i < n → ∀ j, j < n' → eq4 (g i) (g' j) → i ≤ j := by
  intro i
  induction i with
  | zero => intro _ j _ _; exact Nat.zero_le _
  | succ i ih =>
    intro hi j hj he
    obtain ⟨j0, hj0, he0⟩ := hE i (by omega)
    have h1 := ih (by omega) j0 hj0 he0
    have h2 := s i (i + 1) (by omega) hi
    have v1 := hv' j hj
    have v2 := hv' j0 hj0
    obtain ⟨q0, q1, q2, q3⟩ := he
    obtain ⟨r0, r1, r2, r3⟩ := he0
    rcases Nat.lt_trichotomy j j0 with z | z | z
    · have := s' j j0 z hj0
      omega
    · subst z; omega
    · omega
theorem uq {D : DS} (hd : dok D) {l w n n' : Nat} (hl : l < 2) {g g' : Nat → Nat → Nat} (h : gd D l w n g) (s : sepd (dst D 2) g n) (h' : gd D l w n' g') (s' : sepd (dst D 2) g' n') : n = n' ∧ ∀ i, i < n → eq4 (g i) (g' i) := by
  have E := uq_all hd hl h s h' s'
  have E' := uq_all hd hl h' s' h s
  have A := uq_ge s s' (fun j hj => (h'.1 j hj).1.2.1) E
  have A' := uq_ge s' s (fun j hj => (h.1 j hj).1.2.1) E'
  have sy : ∀ {v w : Nat → Nat}, eq4 v w → eq4 w v := fun q => ⟨q.1.symm, q.2.1.symm, q.2.2.1.symm, q.2.2.2.symm⟩
  have le : ∀ i, i < n → i < n' ∧ eq4 (g i) (g' i) := by
    intro i hi
    obtain ⟨j, hj, he⟩ := E i hi
    have h1 := A i hi j hj he
    have h2 := A' j hj i hi (sy he)
    have : i = j := by omega
    subst this
    exact ⟨hj, he⟩
  have le' : ∀ i, i < n' → i < n := by
    intro i hi
    obtain ⟨j, hj, he⟩ := E' i hi
    have h1 := A' i hi j hj he
    omega
  refine ⟨?_, fun i hi => (le i hi).2⟩
  rcases Nat.lt_trichotomy n n' with z | z | z
  · have := le' n z; omega
  · exact z
  · have := (le n' z).1; omega
