/-! PULLS are in order and apart -/
def leq (v w : Nat → Nat) : Prop := v 0 < w 0 ∨ (v 0 = w 0 ∧ v 1 ≤ w 1)
theorem leq_tr {u v w : Nat → Nat} (h1 : leq u v) (h2 : leq v w) : leq u w := by unfold leq at *; omega
theorem leq_of_nbeh {v w : Nat → Nat} (h : ¬ behB v w = true) : leq v w := by
  have h : ¬ beh v w := fun z => h (behB_iff.mpr z)
  unfold beh at h
  unfold leq
  omega
theorem leq_of_beh {v w : Nat → Nat} (h : behB v w = true) : leq w v := by
  have h := behB_iff.mp h
  unfold beh at h
  unfold leq
  omega
/-- where a span comes -/
theorem insA_spec {v : Nat → Nat} : ∀ (i : Nat) (g : Nat → Nat → Nat), ∃ p, p ≤ i ∧ (∀ j, j < p → insA v i g j = g j) ∧ insA v i g p = v ∧ (∀ j, p ≤ j → j < i → insA v i g (j + 1) = g j) ∧ (p = 0 ∨ leq (g (p - 1)) v) ∧ (∀ j, p ≤ j → j < i → leq v (g j)) := by
  intro i
  induction i with
  | zero =>
    intro g
    refine ⟨0, Nat.le_refl _, fun j hj => by omega, ?_, fun j h1 h2 => by omega, Or.inl rfl, fun j h1 h2 => by omega⟩
    show eset g 0 v 0 = v
    exact eset_s
  | succ i ih =>
    intro g
    by_cases c : behB (g i) v = true
    · have e : insA v (i + 1) g = insA v i (eset g (i + 1) (g i)) := if_pos c
      rw [e]
      obtain ⟨p, h1, h2, h3, h4, h5, h6⟩ := ih (eset g (i + 1) (g i))
      have es : ∀ j, j ≤ i → eset g (i + 1) (g i) j = g j := fun j hj => eset_n (by omega)
      refine ⟨p, by omega, fun j hj => by rw [h2 j hj, es j (by omega)], h3, fun j q1 q2 => ?_, ?_, fun j q1 q2 => ?_⟩
      · by_cases z : j = i
        · subst z
          rw [insA_hi _ _ _ (by omega), eset_s]
        · rw [h4 j q1 (by omega), es j (by omega)]
      · rcases h5 with z | z
        · exact Or.inl z
        · right
          rw [es (p - 1) (by omega)] at z
          exact z
      · by_cases z : j = i
        · subst z
          exact leq_of_beh c
        · have := h6 j q1 (by omega)
          rw [es j (by omega)] at this
          exact this
    · have e : insA v (i + 1) g = eset g (i + 1) v := if_neg c
      rw [e]
      exact ⟨i + 1, Nat.le_refl _, fun j hj => eset_n (by omega), eset_s, fun j q1 q2 => by omega, Or.inr (leq_of_nbeh c), fun j q1 q2 => by omega⟩
def srt (g : Nat → Nat → Nat) (n : Nat) : Prop := ∀ i j, i < j → j < n → leq (g i) (g j)
theorem srt_insA {v : Nat → Nat} {g : Nat → Nat → Nat} {n : Nat} (h : srt g n) : srt (insA v n g) (n + 1) := by
  obtain ⟨p, h1, h2, h3, h4, h5, h6⟩ := insA_spec (v := v) n g
  have lo : ∀ a, a < p → leq (g a) v := by
    intro a ha
    rcases h5 with z | z
    · omega
    · by_cases q : a = p - 1
      · rw [q]; exact z
      · exact leq_tr (h a (p - 1) (by omega) (by omega)) z
  intro i j hij hj
  rcases Nat.lt_trichotomy i p with a | a | a
  · rw [h2 i a]
    rcases Nat.lt_trichotomy j p with b | b | b
    · rw [h2 j b]; exact h i j hij (by omega)
    · rw [b, h3]; exact lo i a
    · obtain ⟨k, rfl⟩ : ∃ k, j = k + 1 := ⟨j - 1, by omega⟩
      rw [h4 k (by omega) (by omega)]
      exact h i k (by omega) (by omega)
  · rw [a, h3]
    obtain ⟨k, rfl⟩ : ∃ k, j = k + 1 := ⟨j - 1, by omega⟩
    rw [h4 k (by omega) (by omega)]
    exact h6 k (by omega) (by omega)
  · obtain ⟨k, rfl⟩ : ∃ k, j = k + 1 := ⟨j - 1, by omega⟩
    obtain ⟨q, rfl⟩ : ∃ q, i = q + 1 := ⟨i - 1, by omega⟩
    rw [h4 k (by omega) (by omega), h4 q (by omega) (by omega)]
    exact h q k (by omega) (by omega)
theorem srt_gth {D : DS} {l w : Nat} : ∀ (k e m : Nat) (g : Nat → Nat → Nat), srt g m → srt (gth D l w e k (m, g)).2 (gth D l w e k (m, g)).1 := by
  intro k
  induction k with
  | zero => intro e m g h; exact h
  | succ k ih =>
    intro e m g h
    rw [gth]
    split
    · exact ih (e + 1) m g h
    · exact ih (e + 1) (m + 1) _ (srt_insA h)
/-- in order, and more than near apart -/
def sepd (near : Nat) (g : Nat → Nat → Nat) (n : Nat) : Prop := ∀ i j, i < j → j < n → g i 0 < g j 0 ∨ (g i 0 = g j 0 ∧ g i 2 + 1 + near < g j 1)
theorem sepd_jnA {near n : Nat} : ∀ (k i m : Nat) (g : Nat → Nat → Nat), i + k = n → m ≤ i → sepd near g m → (∀ a b, a < m → i ≤ b → b < n → leq (g a) (g b)) → (∀ a b, i ≤ a → a < b → b < n → leq (g a) (g b)) → (∀ a, a < n → g a 1 ≤ g a 2) → sepd near (jnA near k i m g).1 (jnA near k i m g).2 := by
  intro k
  induction k with
  | zero => intro i m g _ _ h _ _ _; exact h
  | succ k ih =>
    intro i m g hi hm hs h1 h2 hv
    rw [jnA]
    by_cases c : 0 < m ∧ g (m - 1) 0 = g i 0 ∧ g i 1 ≤ g (m - 1) 2 + 1 + near
    · rw [if_pos c]
      have ev : ∀ a, a ≠ m - 1 → eset g (m - 1) (mrg (g (m - 1)) (g i)) a = g a := fun a ha => eset_n ha
      have e0 : ∀ a, eset g (m - 1) (mrg (g (m - 1)) (g i)) a 0 = g a 0 := by
        intro a
        by_cases z : a = m - 1
        · subst z; rw [eset_s]; rfl
        · rw [ev a z]
      have e1 : ∀ a, eset g (m - 1) (mrg (g (m - 1)) (g i)) a 1 = g a 1 := by
        intro a
        by_cases z : a = m - 1
        · subst z; rw [eset_s]; rfl
        · rw [ev a z]
      refine ih (i + 1) m _ (by omega) (by omega) ?_ ?_ ?_ ?_
      · intro a b hab hb
        rw [e0, e0, e1, ev a (by omega)]
        exact hs a b hab hb
      · intro a b ha hb1 hb2
        unfold leq
        rw [e0, e0, e1, e1]
        exact h1 a b ha (by omega) hb2
      · intro a b ha hab hb
        unfold leq
        rw [e0, e0, e1, e1]
        exact h2 a b (by omega) hab hb
      · intro a ha
        by_cases z : a = m - 1
        · subst z
          rw [eset_s]
          exact Nat.le_trans (hv (m - 1) ha) (Nat.le_max_left _ _)
        · rw [ev a z]; exact hv a ha
    · rw [if_neg c]
      have ev : ∀ a, a ≠ m → eset g m (g i) a = g a := fun a ha => eset_n ha
      refine ih (i + 1) (m + 1) _ (by omega) (by omega) ?_ ?_ ?_ ?_
      · intro a b hab hb
        rw [ev a (by omega)]
        by_cases z : b = m
        · subst z
          rw [eset_s]
          have l1 := h1 (b - 1) i (by omega) (Nat.le_refl _) (by omega)
          unfold leq at l1
          have l3 : g (b - 1) 0 < g i 0 ∨ (g (b - 1) 0 = g i 0 ∧ g (b - 1) 2 + 1 + near < g i 1) := by omega
          by_cases y : a = b - 1
          · rw [y]; exact l3
          · have l2 := hs a (b - 1) (by omega) (by omega)
            have l4 := hv (b - 1) (by omega)
            omega
        · rw [ev b z]; exact hs a b hab (by omega)
      · intro a b ha hb1 hb2
        rw [ev b (by omega)]
        by_cases z : a = m
        · subst z
          rw [eset_s]
          exact h2 i b (Nat.le_refl _) (by omega) hb2
        · rw [ev a z]; exact h1 a b (by omega) (by omega) hb2
      · intro a b ha hab hb
        rw [ev a (by omega), ev b (by omega)]
        exact h2 a b (by omega) hab hb
      · intro a ha
        by_cases z : a = m
        · subst z; rw [eset_s]; exact hv i (by omega)
        · rw [ev a z]; exact hv a ha
theorem sepd_pl {D : DS} (hd : dok D) {l w : Nat} (hl : l < 2) : sepd (dst D 2) (plG D l w) (plN D l w) := by
  have hs : srt (gtD D l w).2 (gtD D l w).1 := srt_gth (dn D l) 0 0 g00 (fun i j _ hj => by omega)
  exact sepd_jnA (gtD D l w).1 0 0 (gtD D l w).2 (by omega) (Nat.le_refl 0) (fun i j _ hj => by omega) (fun a b ha => by omega) (fun a b _ hab hb => hs a b hab hb) (fun a ha => (gtD_P hd hl a ha).2.1)
/-! frames ANEW, as the class works them out: pieces (reel, first, last) -/
def awL (g : Nat → Nat → Nat) (r lst i k a : Nat) : List (Nat × Nat × Nat) := match k with
  | 0 => if a ≤ lst then [(r, a, lst)] else []
  | k + 1 => if g i 0 = r then (if a ≤ lst ∧ a < g i 1 then (r, a, min lst (g i 1 - 1)) :: awL g r lst (i + 1) k (max a (g i 2 + 1)) else awL g r lst (i + 1) k (max a (g i 2 + 1))) else awL g r lst (i + 1) k a
def frL (D : DS) (i k : Nat) : List (Nat × Nat × Nat) := match k with
  | 0 => []
  | k + 1 => awL (plG D 0 8) (plG D 1 8 i 0) (min (plG D 1 8 i 2) (dl D (plG D 1 8 i 0) - 1)) 0 (plN D 0 8) (plG D 1 8 i 1) ++ frL D (i + 1) k
/-- how many spans of a reel begin in a piece -/
def bgn (g : Nat → Nat → Nat) (r a b i k : Nat) : Nat := match k with
  | 0 => 0
  | k + 1 => (if g i 0 = r ∧ a < g i 1 ∧ g i 1 ≤ b then 1 else 0) + bgn g r a b (i + 1) k
theorem bgn_mono {g : Nat → Nat → Nat} {r b a a' : Nat} (ha : a ≤ a') : ∀ (k i : Nat), bgn g r a' b i k ≤ bgn g r a b i k := by
  intro k
  induction k with
  | zero => intro i; exact Nat.le_refl _
  | succ k ih =>
    intro i
    have h1 := ih (i + 1)
    rw [bgn, bgn]
    by_cases c : g i 0 = r ∧ a' < g i 1 ∧ g i 1 ≤ b
    · rw [if_pos c, if_pos ⟨c.1, by omega, c.2.2⟩]; omega
    · rw [if_neg c]; omega
theorem bgn_0 {g : Nat → Nat → Nat} {r a b : Nat} (h : b ≤ a) : ∀ (k i : Nat), bgn g r a b i k = 0 := by
  intro k
  induction k with
  | zero => intro i; rfl
  | succ k ih =>
    intro i
    rw [bgn, ih, if_neg (by omega)]
theorem awL_len {g : Nat → Nat → Nat} {r lst n : Nat} (hv : ∀ j, j < n → g j 1 ≤ g j 2) : ∀ (k i a : Nat), i + k ≤ n → (awL g r lst i k a).length ≤ (if a ≤ lst then 1 else 0) + bgn g r a lst i k := by
  intro k
  induction k with
  | zero =>
    intro i a _
    rw [awL]
    split <;> simp
  | succ k ih =>
    intro i a hi
    have hvi := hv i (by omega)
    have h2 := ih (i + 1) (max a (g i 2 + 1)) (by omega)
    have h3 := @bgn_mono g r lst a (max a (g i 2 + 1)) (Nat.le_max_left _ _) k (i + 1)
    rw [awL, bgn]
    by_cases c : g i 0 = r
    · rw [if_pos c]
      by_cases c2 : a ≤ lst ∧ a < g i 1
      · rw [if_pos c2, List.length_cons]
        by_cases c3 : g i 1 ≤ lst
        · rw [if_pos c2.1, if_pos (show g i 0 = r ∧ a < g i 1 ∧ g i 1 ≤ lst from ⟨c, c2.2, c3⟩)]
          split at h2 <;> omega
        · have h4 : ¬ max a (g i 2 + 1) ≤ lst := fun z => by have := Nat.le_trans (Nat.le_max_right a (g i 2 + 1)) z; omega
          rw [if_neg h4, bgn_0 (by omega)] at h2
          rw [if_pos c2.1]
          omega
      · rw [if_neg c2]
        by_cases c4 : a ≤ lst
        · rw [if_pos c4]
          split at h2 <;> omega
        · have h4 : ¬ max a (g i 2 + 1) ≤ lst := fun z => by have := Nat.le_trans (Nat.le_max_left a (g i 2 + 1)) z; omega
          rw [if_neg h4] at h2
          omega
    · rw [if_neg c]
      have := ih (i + 1) a (by omega)
      omega
/-- all of them together -/
def bgs (D : DS) (n i k : Nat) : Nat := match k with
  | 0 => 0
  | k + 1 => bgn (plG D 0 8) (plG D 1 8 i 0) (plG D 1 8 i 1) (min (plG D 1 8 i 2) (dl D (plG D 1 8 i 0) - 1)) 0 n + bgs D n (i + 1) k
theorem bgn_snoc {g : Nat → Nat → Nat} {r a b : Nat} : ∀ (k i : Nat), bgn g r a b i (k + 1) = bgn g r a b i k + (if g (i + k) 0 = r ∧ a < g (i + k) 1 ∧ g (i + k) 1 ≤ b then 1 else 0) := by
  intro k
  induction k with
  | zero => intro i; rw [bgn, bgn, bgn]; simp
  | succ k ih =>
    intro i
    rw [bgn, ih (i + 1), bgn]
    rw [show i + 1 + k = i + (k + 1) by omega]
    omega
/-- of the pulls of list 1 only one can hold the beginning of a pull of list 0 -/
def one1 (D : DS) (j i k : Nat) : Nat := match k with
  | 0 => 0
  | k + 1 => (if plG D 0 8 j 0 = plG D 1 8 i 0 ∧ plG D 1 8 i 1 < plG D 0 8 j 1 ∧ plG D 0 8 j 1 ≤ min (plG D 1 8 i 2) (dl D (plG D 1 8 i 0) - 1) then 1 else 0) + one1 D j (i + 1) k
theorem one1_0 {D : DS} (hd : dok D) {j : Nat} : ∀ (k i : Nat), i + k ≤ plN D 1 8 → (∀ q, i ≤ q → q < i + k → ¬ (plG D 0 8 j 0 = plG D 1 8 q 0 ∧ plG D 1 8 q 1 < plG D 0 8 j 1)) → one1 D j i k = 0 := by
  intro k
  induction k with
  | zero => intro i _ _; rfl
  | succ k ih =>
    intro i hi h
    rw [one1, if_neg (fun z => h i (Nat.le_refl _) (by omega) ⟨z.1, z.2.1⟩), ih (i + 1) (by omega) (fun q h1 h2 => h q (by omega) (by omega))]
theorem one1_le {D : DS} (hd : dok D) {j : Nat} : ∀ (k i : Nat), i + k ≤ plN D 1 8 → one1 D j i k ≤ 1 := by
  have hs := sepd_pl hd (l := 1) (w := 8) (by decide)
  intro k
  induction k with
  | zero => intro i _; exact Nat.zero_le _
  | succ k ih =>
    intro i hi
    rw [one1]
    split
    · rename_i c
      rw [one1_0 hd k (i + 1) (by omega) (fun q h1 h2 z => ?_)]
      · exact Nat.le_refl _
      · have h3 := hs i q (by omega) (by omega)
        have h4 : plG D 0 8 j 1 ≤ plG D 1 8 i 2 := Nat.le_trans c.2.2 (Nat.min_le_left _ _)
        omega
    · have := ih (i + 1) (by omega)
      omega
theorem bgs_snoc {D : DS} {n : Nat} : ∀ (k i : Nat), bgs D (n + 1) i k = bgs D n i k + one1 D n i k := by
  intro k
  induction k with
  | zero => intro i; rfl
  | succ k ih =>
    intro i
    rw [bgs, bgs, ih (i + 1), bgn_snoc, one1, Nat.zero_add]
    omega
theorem bgs_le {D : DS} (hd : dok D) {k : Nat} (hk : k ≤ plN D 1 8) : ∀ n, bgs D n 0 k ≤ n := by
  intro n
  induction n with
  | zero =>
    have z : ∀ (k i : Nat), bgs D 0 i k = 0 := by
      intro k
      induction k with
      | zero => intro i; rfl
      | succ k ih => intro i; rw [bgs, ih]; rfl
    rw [z]
    exact Nat.le_refl _
  | succ n ih =>
    rw [bgs_snoc]
    have := one1_le hd (j := n) k 0 (by omega)
    omega
theorem frL_len {D : DS} (hd : dok D) : ∀ (k i : Nat), (frL D i k).length ≤ k + bgs D (plN D 0 8) i k := by
  obtain ⟨hN, hP⟩ := pl_P hd (l := 0) (w := 8) (by decide)
  intro k
  induction k with
  | zero => intro i; exact Nat.le_refl _
  | succ k ih =>
    intro i
    have h1 := ih (i + 1)
    have h2 := awL_len (g := plG D 0 8) (r := plG D 1 8 i 0) (lst := min (plG D 1 8 i 2) (dl D (plG D 1 8 i 0) - 1)) (n := plN D 0 8) (fun j hj => (hP j hj).2.1) (plN D 0 8) 0 (plG D 1 8 i 1) (by omega)
    rw [frL, List.length_append, bgs]
    split at h2 <;> omega
def frs (D : DS) : List (Nat × Nat × Nat) := frL D 0 (plN D 1 8)
theorem frs_len {D : DS} (hd : dok D) : (frs D).length ≤ 16 := by
  have h1 := frL_len hd (plN D 1 8) 0
  have h2 := bgs_le hd (Nat.le_refl _) (plN D 0 8)
  have h3 := (pl_P hd (l := 0) (w := 8) (by decide)).1
  have h4 := (pl_P hd (l := 1) (w := 8) (by decide)).1
  unfold frs
  omega
