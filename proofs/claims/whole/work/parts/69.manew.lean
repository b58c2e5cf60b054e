/-! frames ANEW, one by one -/
def ex (q : Nat × Nat × Nat) : List Nat := (List.range (q.2.2 - q.2.1 + 1)).map (fun t => 1000000 * q.1 + q.2.1 + t)
def exL (L : List (Nat × Nat × Nat)) : List Nat := match L with
  | [] => []
  | q :: L => ex q ++ exL L
theorem exL_app {A B : List (Nat × Nat × Nat)} : exL (A ++ B) = exL A ++ exL B := by
  induction A with
  | nil => rfl
  | cons q A ih => rw [List.cons_append, exL, exL, ih, List.append_assoc]
theorem ex_len {q : Nat × Nat × Nat} : (ex q).length = q.2.2 - q.2.1 + 1 := by unfold ex; rw [List.length_map, List.length_range]
theorem ex_get {q : Nat × Nat × Nat} {m : Nat} (h : m < q.2.2 - q.2.1 + 1) : (ex q)[m]? = some (1000000 * q.1 + q.2.1 + m) := by
  unfold ex
  rw [List.getElem?_map, List.getElem?_range h]
  rfl
theorem gl_drop {L : List (Nat × Nat × Nat)} {i : Nat} (h : i < L.length) : ∃ q, L.drop i = q :: L.drop (i + 1) ∧ gl L i = pv q := by
  refine ⟨L[i], List.drop_eq_getElem_cons h, ?_⟩
  unfold gl
  rw [List.getElem?_eq_getElem h]
theorem frk_ex {L : List (Nat × Nat × Nat)} : ∀ (k i : Nat), i + k = L.length → frk (gl L) i k = (exL (L.drop i)).length := by
  intro k
  induction k with
  | zero => intro i h; rw [List.drop_eq_nil_of_le (by omega)]; rfl
  | succ k ih =>
    intro i h
    obtain ⟨q, h1, h2⟩ := gl_drop (L := L) (i := i) (by omega)
    rw [frk, ih (i + 1) (by omega), h1, exL, List.length_append, ex_len, h2]
    rfl
theorem nthk_ex {L : List (Nat × Nat × Nat)} : ∀ (k i m : Nat), i + k = L.length → nthk (gl L) i k m = (exL (L.drop i))[m]? := by
  intro k
  induction k with
  | zero => intro i m h; rw [List.drop_eq_nil_of_le (by omega)]; rfl
  | succ k ih =>
    intro i m h
    obtain ⟨q, h1, h2⟩ := gl_drop (L := L) (i := i) (by omega)
    have e0 : gl L i 0 = q.1 := by rw [h2]; rfl
    have e1 : gl L i 1 = q.2.1 := by rw [h2]; rfl
    have e2 : gl L i 2 = q.2.2 := by rw [h2]; rfl
    rw [nthk, e0, e1, e2, h1, exL]
    by_cases c : m < q.2.2 - q.2.1 + 1
    · rw [if_pos c, List.getElem?_append_left (by rw [ex_len]; exact c), ex_get c]
    · rw [if_neg c, List.getElem?_append_right (by rw [ex_len]; omega), ex_len, ih (i + 1) _ (by omega)]
/-- pulled already: by one of the spans i on, k of them -/
def pul (g : Nat → Nat → Nat) (r x i k : Nat) : Bool := match k with
  | 0 => false
  | k + 1 => (decide (g i 0 = r) && (decide (g i 1 ≤ x) && decide (x ≤ g i 2))) || pul g r x (i + 1) k
def bfl (g : Nat → Nat → Nat) (r i k a c : Nat) : List Nat := match c with
  | 0 => []
  | c + 1 => if pul g r a i k = true then bfl g r i k (a + 1) c else (1000000 * r + a) :: bfl g r i k (a + 1) c
theorem bfl_add {g : Nat → Nat → Nat} {r i k : Nat} : ∀ (c1 a c2 : Nat), bfl g r i k a (c1 + c2) = bfl g r i k a c1 ++ bfl g r i k (a + c1) c2 := by
  intro c1
  induction c1 with
  | zero => intro a c2; rw [Nat.zero_add]; rfl
  | succ c1 ih =>
    intro a c2
    rw [show c1 + 1 + c2 = (c1 + c2) + 1 by omega, bfl, bfl, ih (a + 1) c2, show a + 1 + c1 = a + (c1 + 1) by omega]
    split
    · rfl
    · rfl
theorem bfl_all {g : Nat → Nat → Nat} {r i k : Nat} : ∀ (c a : Nat), (∀ x, a ≤ x → x < a + c → pul g r x i k = true) → bfl g r i k a c = [] := by
  intro c
  induction c with
  | zero => intro a _; rfl
  | succ c ih =>
    intro a h
    rw [bfl, if_pos (h a (by omega) (by omega)), ih (a + 1) (fun x h1 h2 => h x (by omega) (by omega))]
theorem bfl_no {g : Nat → Nat → Nat} {r i k : Nat} : ∀ (c a : Nat), (∀ x, a ≤ x → x < a + c → ¬ pul g r x i k = true) → bfl g r i k a c = (List.range c).map (fun t => 1000000 * r + a + t) := by
  intro c
  induction c with
  | zero => intro a _; rfl
  | succ c ih =>
    intro a h
    rw [bfl, if_neg (h a (by omega) (by omega)), ih (a + 1) (fun x h1 h2 => h x (by omega) (by omega)), List.range_succ_eq_map, List.map_cons, List.map_map]
    congr 1
    refine List.map_congr_left (fun t _ => ?_)
    show 1000000 * r + (a + 1) + t = 1000000 * r + a + (t + 1)
    omega
theorem bfl_congr {g : Nat → Nat → Nat} {r i k i' k' : Nat} : ∀ (c a : Nat), (∀ x, a ≤ x → x < a + c → pul g r x i k = pul g r x i' k') → bfl g r i k a c = bfl g r i' k' a c := by
  intro c
  induction c with
  | zero => intro a _; rfl
  | succ c ih =>
    intro a h
    rw [bfl, bfl, h a (by omega) (by omega), ih (a + 1) (fun x h1 h2 => h x (by omega) (by omega))]
theorem pul_lo {g : Nat → Nat → Nat} {r x : Nat} : ∀ (k i : Nat), (∀ j, i ≤ j → j < i + k → g j 0 = r → x < g j 1) → pul g r x i k = false := by
  intro k
  induction k with
  | zero => intro i _; rfl
  | succ k ih =>
    intro i h
    rw [pul, ih (i + 1) (fun j h1 h2 => h j (by omega) (by omega)), Bool.or_false]
    by_cases c : g i 0 = r
    · have := h i (by omega) (by omega) c
      have e : decide (g i 1 ≤ x) = false := decide_eq_false (by omega)
      rw [e, Bool.false_and, Bool.and_false]
    · rw [decide_eq_false c, Bool.false_and]
theorem aw_ex {g : Nat → Nat → Nat} {r lst n : Nat} (hv : ∀ j, j < n → g j 1 ≤ g j 2) (hs : ∀ i j, i < j → j < n → g i 0 = g j 0 → g i 2 < g j 1) : ∀ (k i a : Nat), i + k = n → exL (awL g r lst i k a) = bfl g r i k a (lst + 1 - a) := by
  intro k
  induction k with
  | zero =>
    intro i a _
    rw [awL]
    by_cases c : a ≤ lst
    · rw [if_pos c, bfl_no _ _ (fun x _ _ => by intro z; cases z), exL, exL, List.append_nil]
      show (List.range (lst - a + 1)).map (fun t => 1000000 * r + a + t) = _
      rw [show lst - a + 1 = lst + 1 - a by omega]
    · rw [if_neg c, show lst + 1 - a = 0 by omega]; rfl
  | succ k ih =>
    intro i a hi
    rw [awL]
    by_cases c : g i 0 = r
    · rw [if_pos c]
      have hvi := hv i (by omega)
      have lo : ∀ x, x < g i 1 → pul g r x i (k + 1) = false := fun x hx => pul_lo _ _ (fun j h1 h2 h3 => by
        by_cases z : j = i
        · rw [z]; exact hx
        · have := hs i j (by omega) (by omega) (c.trans h3.symm); omega)
      have mid : ∀ x, g i 1 ≤ x → x ≤ g i 2 → pul g r x i (k + 1) = true := fun x h1 h2 => by
        rw [pul, decide_eq_true c, decide_eq_true h1, decide_eq_true h2]; rfl
      have hig : ∀ x, g i 2 < x → pul g r x i (k + 1) = pul g r x (i + 1) k := fun x h1 => by
        rw [pul, decide_eq_false (show ¬ x ≤ g i 2 by omega), Bool.and_false, Bool.and_false, Bool.false_or]
      have e3 := ih (i + 1) (max a (g i 2 + 1)) (by omega)
      have key : bfl g r i (k + 1) a (lst + 1 - a) = (List.range (min (lst + 1) (g i 1) - a)).map (fun t => 1000000 * r + a + t) ++ bfl g r (i + 1) k (max a (g i 2 + 1)) (lst + 1 - max a (g i 2 + 1)) := by
        have hc : lst + 1 - a = (min (lst + 1) (g i 1) - a) + ((min (lst + 1) (g i 2 + 1) - max a (g i 1)) + (lst + 1 - max a (g i 2 + 1))) := by omega
        rw [hc, bfl_add, bfl_add, bfl_no _ a (fun x h1 h2 => by rw [lo x (by omega)]; decide), bfl_all _ _ (fun x h1 h2 => mid x (by omega) (by omega)), List.nil_append]
        congr 1
        by_cases z : lst + 1 - max a (g i 2 + 1) = 0
        · rw [z]; rfl
        · rw [show a + (min (lst + 1) (g i 1) - a) + (min (lst + 1) (g i 2 + 1) - max a (g i 1)) = max a (g i 2 + 1) by omega]
          exact bfl_congr _ _ (fun x h1 h2 => hig x (by omega))
      by_cases d : a ≤ lst ∧ a < g i 1
      · rw [if_pos d, exL, e3, key]
        congr 1
        show (List.range (min lst (g i 1 - 1) - a + 1)).map (fun t => 1000000 * r + a + t) = _
        rw [show min lst (g i 1 - 1) - a + 1 = min (lst + 1) (g i 1) - a by omega]
      · rw [if_neg d, e3, key, show min (lst + 1) (g i 1) - a = 0 by omega]
        rfl
    · rw [if_neg c, ih (i + 1) a (by omega)]
      refine bfl_congr _ _ (fun x _ _ => ?_)
      rw [pul, decide_eq_false c, Bool.false_and, Bool.false_or]
/-- all frames ANEW that spans i on of LIST 1 have, k of them -/
def bfA (D : DS) (i k : Nat) : List Nat := match k with
  | 0 => []
  | k + 1 => bfl (plG D 0 8) (plG D 1 8 i 0) 0 (plN D 0 8) (plG D 1 8 i 1) (min (plG D 1 8 i 2) (dl D (plG D 1 8 i 0) - 1) + 1 - plG D 1 8 i 1) ++ bfA D (i + 1) k
theorem fr_ex {D : DS} (hd : dok D) : ∀ (k i : Nat), exL (frL D i k) = bfA D i k := by
  have s := sepd_pl hd (l := 0) (w := 8) (by decide)
  have P := (pl_P hd (l := 0) (w := 8) (by decide)).2
  intro k
  induction k with
  | zero => intro i; rfl
  | succ k ih =>
    intro i
    rw [frL, exL_app, ih (i + 1), bfA, aw_ex (n := plN D 0 8) (fun j hj => (P j hj).2.1) (fun a b hab hb h0 => by have := s a b hab hb; omega) (plN D 0 8) 0 _ (by omega)]
theorem anN {D : DS} (hd : dok D) : sAnewN D = (bfA D 0 (plN D 1 8)).length := by
  unfold sAnewN frs
  rw [frk_ex _ 0 (by omega), List.drop_zero, fr_ex hd]
theorem anI {D : DS} (hd : dok D) (i : Nat) : sAnewI D i = oN (bfA D 0 (plN D 1 8))[i]? := by
  unfold sAnewI frs
  rw [nthk_ex _ 0 _ (by omega), List.drop_zero, fr_ex hd]
theorem bfl_le {g : Nat → Nat → Nat} {r i k : Nat} : ∀ (c a : Nat), (bfl g r i k a c).length ≤ c := by
  intro c
  induction c with
  | zero => intro a; exact Nat.le_refl _
  | succ c ih =>
    intro a
    have := ih (a + 1)
    rw [bfl]
    split
    · omega
    · rw [List.length_cons]; omega
theorem bfA_le {D : DS} (hd : dok D) : ∀ (k i : Nat), i + k ≤ plN D 1 8 → (bfA D i k).length ≤ 2 ^ 18 * k := by
  have P := (pl_P hd (l := 1) (w := 8) (by decide)).2
  intro k
  induction k with
  | zero => intro i _; exact Nat.le_refl _
  | succ k ih =>
    intro i hi
    have h1 := ih (i + 1) (by omega)
    have h2 := (P i (by omega)).2.2.1
    rw [bfA, List.length_append]
    have h3 := @bfl_le (plG D 0 8) (plG D 1 8 i 0) 0 (plN D 0 8) (min (plG D 1 8 i 2) (dl D (plG D 1 8 i 0) - 1) + 1 - plG D 1 8 i 1) (plG D 1 8 i 1)
    omega
/-- the frame looked for, among those met -/
def fo (v : Option Nat) (P : List Nat) : Option Nat := match v with
  | none => none
  | some i => P[i]?
theorem fo_snoc {v : Option Nat} {P : List Nat} {c : Nat} (hP : P.length < 2 ^ 31) (hv : ∀ i, v = some i → i < 2 ^ 31) : oN (fo v (P ++ [c])) = if nI P.length = oN v then nI c else oN (fo v P) := by
  cases v with
  | none => exact (if_neg (oN_ne hP)).symm
  | some i =>
    have hi := hv i rfl
    show oN (P ++ [c])[i]? = if nI P.length = nI i then nI c else oN P[i]?
    by_cases e : P.length = i
    · rw [if_pos (by rw [e]), ← e, List.getElem?_append_right (Nat.le_refl _), Nat.sub_self]; rfl
    · rw [if_neg (fun z => e ((nI_eq hP hi).mp z))]
      by_cases q : i < P.length
      · rw [List.getElem?_append_left q]
      · rw [List.getElem?_eq_none (by rw [List.length_append, List.length_singleton]; omega), List.getElem?_eq_none (by omega)]
