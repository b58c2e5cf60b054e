/-! A LOGIC OVER AN ABSTRACT HEAP. Cells bear numbers 0 to 70 (jad X gives the addresses); a heap is a function from numbers to cells;
J says: from here the method comes to a return whose answer and heap satisfy Q. -/
abbrev jn : Nat := 71
abbrev Cx : Type := (Nat → ClassId) × (Nat → Nat → Nat) × (Nat → ClassId) × (Nat → Nat) × Nat × (Nat → Int32)
abbrev AE : Type := (Nat × Nat × (Nat → Int32)) ⊕ ((Nat × Nat × (Nat → Option Nat)) ⊕ (Nat × List Value))
abbrev HF : Type := Nat → AE
abbrev oA (t n : Nat) (f : Nat → Int32) : AE := .inl (t, n, f)
abbrev oR (t n : Nat) (f : Nat → Option Nat) : AE := .inr (.inl (t, n, f))
abbrev oB (ci : Nat) (fs : List Value) : AE := .inr (.inr (ci, fs))
def jD (X : Cx) : va_G := (X.1, X.2.1)
def jK (X : Cx) : Nat → ClassId := X.2.2.1
def jad (X : Cx) : Nat → Nat := X.2.2.2.1
def jL (X : Cx) : Nat := X.2.2.2.2.1
def jx (X : Cx) : Nat → Int32 := X.2.2.2.2.2
def jty (X : Cx) : List (ClassId × FieldType) := [(jK X 0, .int), (jK X 1, .boolean), (jK X 2, .object RX2), (jK X 3, .object RX1), (jK X 4, .object RX4), (jK X 5, .object RX5)]
def mv (X : Cx) (v : Value) : Value := match v with
  | .ref i => .ref (jad X i)
  | w => w
theorem mv_cat (X : Cx) (v : Value) : (mv X v).category = v.category := by cases v <;> rfl
theorem mv_cats (X : Cx) (st : List Value) : (st.map (mv X)).map (fun v => v.category) = st.map (fun v => v.category) := by
  induction st with
  | nil => rfl
  | cons v t ih => simp only [List.map_cons, mv_cat, ih]
def encE (X : Cx) (c : AE) : va_E := match c with
  | .inl (t, n, f) => .inl (jK X t, n, .inl f)
  | .inr (.inl (t, n, f)) => .inl (jK X t, n, .inr (.inr (.inr (.inr (fun j => (f j).map (jad X))))))
  | .inr (.inr (ci, fs)) => .inr (ci, fs.map (mv X))
def wl (X : Cx) (h : HF) : va_W := (List.range jn).map (fun i => (jad X i, encE X (h i)))
def jS (X : Cx) : Nat → Prop := fun q => ∃ i, i < jn ∧ q = jad X i
def hu (h : HF) (i : Nat) (c : AE) : HF := fun j => if j = i then c else h j
def hAt (h : HF) (a : Nat) (c : AE) : Prop := a < jn ∧ h a = c
theorem hu_same {h : HF} {i : Nat} {c : AE} : hu h i c i = c := if_pos rfl
theorem hu_ne {h : HF} {i j : Nat} {c : AE} (n : j ≠ i) : hu h i c j = h j := if_neg n
theorem hAt_same {h : HF} {a : Nat} {c c' : AE} (p : hAt h a c) : hAt (hu h a c') a c' := ⟨p.1, hu_same⟩
theorem hAt_ne {h : HF} {a b : Nat} {c c' : AE} (p : hAt h a c) (n : a ≠ b) : hAt (hu h b c') a c := ⟨p.1, (hu_ne n).trans p.2⟩
theorem wl_at {X : Cx} {h : HF} {i : Nat} (hi : i < jn) : (wl X h)[i]? = some (jad X i, encE X (h i)) := by
  simp only [wl, List.getElem?_map, List.getElem?_range hi, Option.map_some]
theorem wl_none {X : Cx} {h : HF} {i : Nat} (hi : ¬ i < jn) : (wl X h)[i]? = none := by
  rw [List.getElem?_eq_none_iff]
  simp only [wl, List.length_map, List.length_range]
  omega
theorem wl_set {X : Cx} {h : HF} {i : Nat} {c : AE} (hi : i < jn) : (wl X h).set i (jad X i, encE X c) = wl X (hu h i c) := by
  apply List.ext_getElem?
  intro k
  by_cases hk : k < jn
  · rw [wl_at hk]
    by_cases e : k = i
    · subst e
      rw [List.getElem?_set_self (by simp only [wl, List.length_map, List.length_range]; exact hk), hu_same]
    · rw [List.getElem?_set_ne (Ne.symm e), wl_at hk, hu_ne e]
  · rw [wl_none hk, List.getElem?_eq_none_iff]
    simp only [wl, List.length_set, List.length_map, List.length_range]
    omega
def jinj (X : Cx) : Prop := ∀ i j, i < jn → j < jn → jad X i = jad X j → i = j
theorem wl_D {X : Cx} {h : HF} (hi : jinj X) : va_D (jS X) (wl X h) := by
  refine ⟨fun i j p q h1 h2 hpq => ?_, fun k q hk => ?_⟩
  · by_cases a : i < jn
    · by_cases b : j < jn
      · rw [wl_at a] at h1
        rw [wl_at b] at h2
        cases h1
        cases h2
        exact hi i j a b hpq
      · rw [wl_none b] at h2; cases h2
    · rw [wl_none a] at h1; cases h1
  · by_cases a : k < jn
    · rw [wl_at a] at hk
      cases hk
      exact ⟨k, a, rfl⟩
    · rw [wl_none a] at hk; cases hk
/-- the static rows: HIGHEST_SETTING, LEAST_PART, HIGHEST_PART -/
def jt0 (j : Nat) : Int32 := if j = 0 then 2 else 500
def jt1 (j : Nat) : Int32 := if j = 0 then 0 else if j = 1 then 1 else if j = 2 then 0 else 1
def jt2 (j : Nat) : Int32 := if j = 0 then 199999 else if j = 1 then 500 else 6
def jst (X : Cx) (U : State) (H : Heap) : Prop :=
  (va_Z RX6 "HIGHEST_SETTING" "[I" (.ref (jad X 1000)) (jS X) U H ∧ va_T .int (jad X 1000) 3 (fun j => .int (jt0 j)) (jS X) U H) ∧
  (va_Z RX6 "LEAST_PART" "[I" (.ref (jad X 1001)) (jS X) U H ∧ va_T .int (jad X 1001) 4 (fun j => .int (jt1 j)) (jS X) U H) ∧
  (va_Z RX6 "HIGHEST_PART" "[I" (.ref (jad X 1002)) (jS X) U H ∧ va_T .int (jad X 1002) 4 (fun j => .int (jt2 j)) (jS X) U H) ∧
  (va_X (jad X 2000) (jL X) (jx X) U H ∧ jad X 2000 < H.size ∧ ¬ jS X (jad X 2000))
theorem jst.moved {X : Cx} {u U : State} {H : Heap} (hvm : u.vm.Alike U.vm) (h : jst X u H) : jst X U H :=
  ⟨⟨h.1.1.moved hvm, h.1.2.moved hvm⟩, ⟨h.2.1.1.moved hvm, h.2.1.2.moved hvm⟩, ⟨h.2.2.1.1.moved hvm, h.2.2.1.2.moved hvm⟩, h.2.2.2.1.moved hvm, h.2.2.2.2⟩
theorem jst.kept {X : Cx} {U : State} {H H1 : Heap} (h : jst X U H) (hz : H.size ≤ H1.size) (hq : ∀ a : Nat, a < H.size → ¬ jS X a → H1[a]? = H[a]?) : jst X U H1 :=
  ⟨⟨h.1.1.kept hq, h.1.2.kept hq⟩, ⟨h.2.1.1.kept hq, h.2.1.2.kept hq⟩, ⟨h.2.2.1.1.kept hq, h.2.2.1.2.kept hq⟩, h.2.2.2.1.kept (hq _ h.2.2.2.2.1 h.2.2.2.2.2), Nat.lt_of_lt_of_le h.2.2.2.2.1 hz, h.2.2.2.2.2⟩
def jW (X : Cx) (h : HF) (U : State) : Prop := va_P (jD X) jcl (wl X h) U.heap ∧ va_K (jD X) jcl (jty X) U ∧ jinj X ∧ jst X U U.heap ∧ jnest U
/-- the locals, by their places; none: not known -/
def jls (X : Cx) (i : Nat) (ls : List (Option Value)) : List (Nat × Value) := match ls with
  | [] => []
  | none :: t => jls X (i + 1) t
  | some v :: t => (i, mv X v) :: jls X (i + 1) t
theorem jls_mem {X : Cx} {ls : List (Option Value)} {i : Nat} {q : Nat × Value} : q ∈ jls X i ls ↔ ∃ (j : Nat) (v : Value), ls[j]? = some (some v) ∧ q = (i + j, mv X v) := by
  induction ls generalizing i with
  | nil => simp [jls]
  | cons x t ih =>
    cases x with
    | none =>
      rw [jls, ih]
      constructor
      · rintro ⟨j, v, h1, h2⟩
        exact ⟨j + 1, v, by simpa using h1, by rw [h2]; congr 1; omega⟩
      · rintro ⟨j, v, h1, h2⟩
        cases j with
        | zero => simp at h1
        | succ j => exact ⟨j, v, by simpa using h1, by rw [h2]; congr 1; omega⟩
    | some w =>
      rw [jls, List.mem_cons, ih]
      constructor
      · rintro (h | ⟨j, v, h1, h2⟩)
        · exact ⟨0, w, rfl, h⟩
        · exact ⟨j + 1, v, by simpa using h1, by rw [h2]; congr 1; omega⟩
      · rintro ⟨j, v, h1, h2⟩
        cases j with
        | zero =>
          left
          simp at h1
          rw [h2, h1]
          rfl
        | succ j =>
          right
          exact ⟨j, v, by simpa using h1, by rw [h2]; congr 1; omega⟩
theorem lv_mono {la : Array Slot} {nL : Nat} {l l' : List (Nat × Value)} (h : lv_has la nL l) (hs : ∀ q ∈ l', q ∈ l) : lv_has la nL l' := ⟨h.1, h.2.1, fun q hq => h.2.2 q (hs q hq)⟩
theorem jls_at {X : Cx} {la : Array Slot} {nL : Nat} {ls : List (Option Value)} (h : lv_has la nL (jls X 0 ls)) {i : Nat} {v : Value} (hv : ls[i]? = some (some v)) : la[i]? = some (.val (mv X v)) :=
  h.2.2 (i, mv X v) (jls_mem.mpr ⟨i, v, hv, by rw [Nat.zero_add]⟩)
/-- nothing of two places stands there -/
def lok (x : Option Value) : Bool := match x with
  | some v => v.category == 1
  | none => true
theorem jls_set1 {X : Cx} {la : Array Slot} {nL : Nat} {ls : List (Option Value)} {i : Nat} {v : Value} (hp : ∀ j, j + 1 = i → ∀ x, ls[j]? = some x → lok x = true)
    (h : lv_has la nL ((i, mv X v) :: (jls X 0 ls).filter (fun q => !(q.1 == i) && !(q.1 + 1 == i && q.2.category == 2)))) : lv_has la nL (jls X 0 (ls.set i (some v))) := by
  refine lv_mono h (fun q hq => ?_)
  obtain ⟨j, w, h1, rfl⟩ := jls_mem.mp hq
  rw [Nat.zero_add]
  by_cases e : j = i
  · subst e
    have hl : j < ls.length := by
      rcases Nat.lt_or_ge j ls.length with z | z
      · exact z
      · rw [List.getElem?_eq_none_iff.mpr (by rw [List.length_set]; exact z)] at h1; cases h1
    rw [List.getElem?_set_self hl] at h1
    cases h1
    exact List.mem_cons_self
  · rw [List.getElem?_set_ne (Ne.symm e)] at h1
    refine List.mem_cons_of_mem _ (List.mem_filter.mpr ⟨jls_mem.mpr ⟨j, w, h1, by rw [Nat.zero_add]⟩, ?_⟩)
    by_cases e2 : j + 1 = i
    · have := hp j e2 _ h1
      simp only [lok, beq_iff_eq] at this
      simp [e, mv_cat, this]
    · simp [e, e2]
theorem jls_set2 {X : Cx} {la : Array Slot} {nL : Nat} {ls : List (Option Value)} {i : Nat} {v : Value} (hp : ∀ j, j + 1 = i → ∀ x, ls[j]? = some x → lok x = true)
    (h : lv_has la nL ((i, mv X v) :: (jls X 0 ls).filter (fun q => !(q.1 == i) && (!(q.1 == i + 1) && !(q.1 + 1 == i && q.2.category == 2))))) : lv_has la nL (jls X 0 ((ls.set i (some v)).set (i + 1) none)) := by
  refine lv_mono h (fun q hq => ?_)
  obtain ⟨j, w, h1, rfl⟩ := jls_mem.mp hq
  rw [Nat.zero_add]
  by_cases e1 : j = i + 1
  · subst e1
    exfalso
    by_cases hl : i + 1 < (ls.set i (some v)).length
    · rw [List.getElem?_set_self hl] at h1; cases h1
    · rw [List.getElem?_eq_none_iff.mpr (by rw [List.length_set]; omega)] at h1; cases h1
  · rw [List.getElem?_set_ne (Ne.symm e1)] at h1
    by_cases e : j = i
    · subst e
      have hl : j < ls.length := by
        rcases Nat.lt_or_ge j ls.length with z | z
        · exact z
        · rw [List.getElem?_eq_none_iff.mpr (by rw [List.length_set]; exact z)] at h1; cases h1
      rw [List.getElem?_set_self hl] at h1
      cases h1
      exact List.mem_cons_self
    · rw [List.getElem?_set_ne (Ne.symm e)] at h1
      refine List.mem_cons_of_mem _ (List.mem_filter.mpr ⟨jls_mem.mpr ⟨j, w, h1, by rw [Nat.zero_add]⟩, ?_⟩)
      by_cases e2 : j + 1 = i
      · have := hp j e2 _ h1
        simp only [lok, beq_iff_eq] at this
        simp [e, e1, mv_cat, this]
      · simp [e, e1, e2]
def jrm (d : Nat) : Room := { frames := d, cells := 0, slots := 0, locals := 35 * d }
def jCtx (X : Cx) (own : String) (cc : ByteArray) (nL d : Nat) (p : Program) (R : Room) (s : State) (m : MethodId) (args : Array Value) (c : Code) (kc ks : Nat) : Prop :=
  p.tables.exec = Jvm.exec ∧ c.code = cc ∧ c.maxLocals = nL ∧ s.vm.findClass own = some m.cls ∧ (∀ w ∈ jtb, w.before args s = true) ∧ va_K (jD X) jcl (jty X) s ∧ jinj X ∧ jst X s s.heap ∧ (d ≤ R.frames ∧ 35 * d ≤ R.locals) ∧ kc ≤ R.cells ∧ ks ≤ R.slots ∧ jnest s
def jrok (cc : ByteArray) (ret : Option FieldType) (pc : Nat) (r : Option Value) : Prop := match r with
  | none => ret = none ∧ decode cc pc = .ok (.return_, 1)
  | some (.int v) => decode cc pc = .ok (.ireturn, 1) ∧ (ret = some .int ∨ (ret = some .boolean ∧ (v = 0 ∨ v = 1)))
  | some (.long _) => ret = some .long ∧ decode cc pc = .ok (.lreturn, 1)
  | some (.ref _) => decode cc pc = .ok (.areturn, 1) ∧ ∃ n, ret = some (.object n)
  | _ => False
def jRet (X : Cx) (cc : ByteArray) (ret : Option FieldType) (Q : Option Value → HF → Prop) (p : Program) (l : Launch) (e : Env) (R : Room) (s : State) (m : MethodId) (args : Array Value) (below : List Frame) (meth : Method) (c : Code) (kc ks : Nat) (Z : State → Prop) : Prop :=
  ∀ (H : Heap) (locs : List Loc) (la : Array Slot) (pc : Nat) (r : Option Value) (h : HF), Q r h → jrok cc ret pc r → va_P (jD X) jcl (wl X h) H → va_S (jS X) s.heap H locs → W p l e R s m args below meth c H locs kc ks Z (F0 m pc la (r.map (mv X)).toList)
def J (X : Cx) (own : String) (cc : ByteArray) (nL d : Nat) (ret : Option FieldType) (Q : Option Value → HF → Prop) (pc : Nat) (ls : List (Option Value)) (st : List Value) (h : HF) : Prop :=
  ∀ (p : Program) (l : Launch) (e : Env) (R : Room) (s : State) (m : MethodId) (args : Array Value) (below : List Frame) (meth : Method) (c : Code) (kc ks : Nat) (Z : State → Prop),
    jCtx X own cc nL d p R s m args c kc ks → jRet X cc ret Q p l e R s m args below meth c kc ks Z →
    ∀ (H : Heap) (locs : List Loc) (la : Array Slot), lv_has la nL (jls X 0 ls) → va_P (jD X) jcl (wl X h) H → va_S (jS X) s.heap H locs → W p l e R s m args below meth c H locs kc ks Z (F0 m pc la (st.map (mv X)))
/-- the contract of a method: from any state that holds h it returns, with Q of the answer and the heap -/
def Ct (X : Cx) (M : jMI) (d : Nat) (args : List Value) (h : HF) (Q : Option Value → HF → Prop) : Prop :=
  ∀ l : Launch, Met l M.1 (Cond.code M.1 M.2.1 M.2.2.1 M.2.2.2 :: jtb) (jrm d) (va_Pc (args.map (mv X)) (jW X h)) (fun _ st oc t => (∃ (r : Option Value) (h' : HF), oc = .returned (r.map (mv X)) ∧ Q r h' ∧ va_P (jD X) jcl (wl X h') t.heap) ∧ va_F (jS X) st t) 0 0 (jS X)
section JL
variable {X : Cx} {own : String} {cc : ByteArray} {nL d : Nat} {ret : Option FieldType} {Q : Option Value → HF → Prop} {pc : Nat} {ls : List (Option Value)} {st : List Value} {h : HF}

theorem J_iadd {a b : Int32} (hd : decode cc pc = .ok (.iadd, 1))  (k : J X own cc nL d ret Q (pc + 1) ls (.int (a + b) :: st) h) : J X own cc nL d ret Q pc ls (.int b :: .int a :: st) h := by
  intro p l e R s m args below meth c kc ks Z C0 hR H locs la hl hP hS
  exact lv_iadd C0.1 C0.2.1 hd (k p l e R s m args below meth c kc ks Z C0 hR H locs la hl hP hS)
theorem J_isub {a b : Int32} (hd : decode cc pc = .ok (.isub, 1))  (k : J X own cc nL d ret Q (pc + 1) ls (.int (a - b) :: st) h) : J X own cc nL d ret Q pc ls (.int b :: .int a :: st) h := by
  intro p l e R s m args below meth c kc ks Z C0 hR H locs la hl hP hS
  exact lv_isub C0.1 C0.2.1 hd (k p l e R s m args below meth c kc ks Z C0 hR H locs la hl hP hS)
theorem J_imul {a b : Int32} (hd : decode cc pc = .ok (.imul, 1))  (k : J X own cc nL d ret Q (pc + 1) ls (.int (a * b) :: st) h) : J X own cc nL d ret Q pc ls (.int b :: .int a :: st) h := by
  intro p l e R s m args below meth c kc ks Z C0 hR H locs la hl hP hS
  exact lv_imul C0.1 C0.2.1 hd (k p l e R s m args below meth c kc ks Z C0 hR H locs la hl hP hS)
theorem J_iand {a b : Int32} (hd : decode cc pc = .ok (.iand, 1))  (k : J X own cc nL d ret Q (pc + 1) ls (.int (a &&& b) :: st) h) : J X own cc nL d ret Q pc ls (.int b :: .int a :: st) h := by
  intro p l e R s m args below meth c kc ks Z C0 hR H locs la hl hP hS
  exact lv_iand C0.1 C0.2.1 hd (k p l e R s m args below meth c kc ks Z C0 hR H locs la hl hP hS)
theorem J_ior {a b : Int32} (hd : decode cc pc = .ok (.ior, 1))  (k : J X own cc nL d ret Q (pc + 1) ls (.int (a ||| b) :: st) h) : J X own cc nL d ret Q pc ls (.int b :: .int a :: st) h := by
  intro p l e R s m args below meth c kc ks Z C0 hR H locs la hl hP hS
  exact lv_ior C0.1 C0.2.1 hd (k p l e R s m args below meth c kc ks Z C0 hR H locs la hl hP hS)
theorem J_ixor {a b : Int32} (hd : decode cc pc = .ok (.ixor, 1))  (k : J X own cc nL d ret Q (pc + 1) ls (.int (a ^^^ b) :: st) h) : J X own cc nL d ret Q pc ls (.int b :: .int a :: st) h := by
  intro p l e R s m args below meth c kc ks Z C0 hR H locs la hl hP hS
  exact lv_ixor C0.1 C0.2.1 hd (k p l e R s m args below meth c kc ks Z C0 hR H locs la hl hP hS)
theorem J_ishl {a b : Int32} (hd : decode cc pc = .ok (.ishl, 1))  (k : J X own cc nL d ret Q (pc + 1) ls (.int (a <<< (b &&& 31)) :: st) h) : J X own cc nL d ret Q pc ls (.int b :: .int a :: st) h := by
  intro p l e R s m args below meth c kc ks Z C0 hR H locs la hl hP hS
  exact lv_ishl C0.1 C0.2.1 hd (k p l e R s m args below meth c kc ks Z C0 hR H locs la hl hP hS)
theorem J_ishr {a b : Int32} (hd : decode cc pc = .ok (.ishr, 1))  (k : J X own cc nL d ret Q (pc + 1) ls (.int (a >>> (b &&& 31)) :: st) h) : J X own cc nL d ret Q pc ls (.int b :: .int a :: st) h := by
  intro p l e R s m args below meth c kc ks Z C0 hR H locs la hl hP hS
  exact lv_ishr C0.1 C0.2.1 hd (k p l e R s m args below meth c kc ks Z C0 hR H locs la hl hP hS)
theorem J_idiv {a b : Int32} (hd : decode cc pc = .ok (.idiv, 1)) (hne : ¬ b = 0) (k : J X own cc nL d ret Q (pc + 1) ls (.int (a / b) :: st) h) : J X own cc nL d ret Q pc ls (.int b :: .int a :: st) h := by
  intro p l e R s m args below meth c kc ks Z C0 hR H locs la hl hP hS
  exact lv_idiv C0.1 C0.2.1 hd hne (k p l e R s m args below meth c kc ks Z C0 hR H locs la hl hP hS)
theorem J_irem {a b : Int32} (hd : decode cc pc = .ok (.irem, 1)) (hne : ¬ b = 0) (k : J X own cc nL d ret Q (pc + 1) ls (.int (a - a / b * b) :: st) h) : J X own cc nL d ret Q pc ls (.int b :: .int a :: st) h := by
  intro p l e R s m args below meth c kc ks Z C0 hR H locs la hl hP hS
  exact lv_irem C0.1 C0.2.1 hd hne (k p l e R s m args below meth c kc ks Z C0 hR H locs la hl hP hS)
theorem J_ineg {a : Int32} (hd : decode cc pc = .ok (.ineg, 1))  (k : J X own cc nL d ret Q (pc + 1) ls (.int (-a) :: st) h) : J X own cc nL d ret Q pc ls (.int a :: st) h := by
  intro p l e R s m args below meth c kc ks Z C0 hR H locs la hl hP hS
  exact lv_ineg C0.1 C0.2.1 hd (k p l e R s m args below meth c kc ks Z C0 hR H locs la hl hP hS)
theorem J_ladd {a b : Int64} (hd : decode cc pc = .ok (.ladd, 1))  (k : J X own cc nL d ret Q (pc + 1) ls (.long (a + b) :: st) h) : J X own cc nL d ret Q pc ls (.long b :: .long a :: st) h := by
  intro p l e R s m args below meth c kc ks Z C0 hR H locs la hl hP hS
  exact lv_ladd C0.1 C0.2.1 hd (k p l e R s m args below meth c kc ks Z C0 hR H locs la hl hP hS)
theorem J_lmul {a b : Int64} (hd : decode cc pc = .ok (.lmul, 1))  (k : J X own cc nL d ret Q (pc + 1) ls (.long (a * b) :: st) h) : J X own cc nL d ret Q pc ls (.long b :: .long a :: st) h := by
  intro p l e R s m args below meth c kc ks Z C0 hR H locs la hl hP hS
  exact lv_lmul C0.1 C0.2.1 hd (k p l e R s m args below meth c kc ks Z C0 hR H locs la hl hP hS)
theorem J_lsub {a b : Int64} (hd : decode cc pc = .ok (.lsub, 1))  (k : J X own cc nL d ret Q (pc + 1) ls (.long (a - b) :: st) h) : J X own cc nL d ret Q pc ls (.long b :: .long a :: st) h := by
  intro p l e R s m args below meth c kc ks Z C0 hR H locs la hl hP hS
  exact lv_lsub C0.1 C0.2.1 hd (k p l e R s m args below meth c kc ks Z C0 hR H locs la hl hP hS)
theorem J_i2l {a : Int32} (hd : decode cc pc = .ok (.i2l, 1))  (k : J X own cc nL d ret Q (pc + 1) ls (.long a.toInt64 :: st) h) : J X own cc nL d ret Q pc ls (.int a :: st) h := by
  intro p l e R s m args below meth c kc ks Z C0 hR H locs la hl hP hS
  exact lv_i2l C0.1 C0.2.1 hd rfl (k p l e R s m args below meth c kc ks Z C0 hR H locs la hl hP hS)
theorem J_i2b {a : Int32} (hd : decode cc pc = .ok (.i2b, 1))  (k : J X own cc nL d ret Q (pc + 1) ls (.int a.toInt8.toInt32 :: st) h) : J X own cc nL d ret Q pc ls (.int a :: st) h := by
  intro p l e R s m args below meth c kc ks Z C0 hR H locs la hl hP hS
  exact lv_i2b C0.1 C0.2.1 hd rfl (k p l e R s m args below meth c kc ks Z C0 hR H locs la hl hP hS)
theorem J_i2s {a : Int32} (hd : decode cc pc = .ok (.i2s, 1))  (k : J X own cc nL d ret Q (pc + 1) ls (.int a.toInt16.toInt32 :: st) h) : J X own cc nL d ret Q pc ls (.int a :: st) h := by
  intro p l e R s m args below meth c kc ks Z C0 hR H locs la hl hP hS
  exact lv_i2s C0.1 C0.2.1 hd rfl (k p l e R s m args below meth c kc ks Z C0 hR H locs la hl hP hS)
theorem J_lcmp {a b : Int64} (hd : decode cc pc = .ok (.lcmp, 1))  (k : J X own cc nL d ret Q (pc + 1) ls (.int (lg_cmp a b) :: st) h) : J X own cc nL d ret Q pc ls (.long b :: .long a :: st) h := by
  intro p l e R s m args below meth c kc ks Z C0 hR H locs la hl hP hS
  exact W.lcmp C0.1 C0.2.1 hd (k p l e R s m args below meth c kc ks Z C0 hR H locs la hl hP hS)
theorem J_iconst {n : Int} {v : Int32} (hd : decode cc pc = .ok (.iconst n, 1)) (hv : Int32.ofInt n = v) (k : J X own cc nL d ret Q (pc + 1) ls (.int v :: st) h) : J X own cc nL d ret Q pc ls st h := by
  intro p l e R s m args below meth c kc ks Z C0 hR H locs la hl hP hS
  exact lv_iconst C0.1 C0.2.1 hd hv (k p l e R s m args below meth c kc ks Z C0 hR H locs la hl hP hS)
theorem J_bipush {n : Int} {v : Int32} (hd : decode cc pc = .ok (.bipush n, 2)) (hv : (Int8.ofInt n).toInt32 = v) (k : J X own cc nL d ret Q (pc + 2) ls (.int v :: st) h) : J X own cc nL d ret Q pc ls st h := by
  intro p l e R s m args below meth c kc ks Z C0 hR H locs la hl hP hS
  exact lv_bipush C0.1 C0.2.1 hd hv (k p l e R s m args below meth c kc ks Z C0 hR H locs la hl hP hS)
theorem J_sipush {n : Int} {v : Int32} (hd : decode cc pc = .ok (.sipush n, 3)) (hv : (Int16.ofInt n).toInt32 = v) (k : J X own cc nL d ret Q (pc + 3) ls (.int v :: st) h) : J X own cc nL d ret Q pc ls st h := by
  intro p l e R s m args below meth c kc ks Z C0 hR H locs la hl hP hS
  exact lv_sipush C0.1 C0.2.1 hd hv (k p l e R s m args below meth c kc ks Z C0 hR H locs la hl hP hS)
theorem J_ldc {i : Nat} {v : Int32} (hd : decode cc pc = .ok (.ldc i, 2)) (hc : Cond.constant own i v ∈ jtb) (k : J X own cc nL d ret Q (pc + 2) ls (.int v :: st) h) : J X own cc nL d ret Q pc ls st h := by
  intro p l e R s m args below meth c kc ks Z C0 hR H locs la hl hP hS
  exact lv_ldc C0.1 C0.2.1 C0.2.2.2.1 (C0.2.2.2.2.1 _ hc) hd (k p l e R s m args below meth c kc ks Z C0 hR H locs la hl hP hS)
theorem J_ldc_w {i : Nat} {v : Int32} (hd : decode cc pc = .ok (.ldc_w i, 3)) (hc : Cond.constant own i v ∈ jtb) (k : J X own cc nL d ret Q (pc + 3) ls (.int v :: st) h) : J X own cc nL d ret Q pc ls st h := by
  intro p l e R s m args below meth c kc ks Z C0 hR H locs la hl hP hS
  exact lv_ldcw C0.1 C0.2.1 C0.2.2.2.1 (C0.2.2.2.2.1 _ hc) hd (k p l e R s m args below meth c kc ks Z C0 hR H locs la hl hP hS)
theorem J_ldc2_w {i : Nat} {v : Int64} (hd : decode cc pc = .ok (.ldc2_w i, 3)) (hc : Cond.constantLong own i v ∈ jtb) (k : J X own cc nL d ret Q (pc + 3) ls (.long v :: st) h) : J X own cc nL d ret Q pc ls st h := by
  intro p l e R s m args below meth c kc ks Z C0 hR H locs la hl hP hS
  exact lv_ldc2 C0.1 C0.2.1 C0.2.2.2.1 (C0.2.2.2.2.1 _ hc) hd (k p l e R s m args below meth c kc ks Z C0 hR H locs la hl hP hS)
theorem J_dup {v : Value} (hd : decode cc pc = .ok (.dup, 1)) (hc : v.category = 1) (k : J X own cc nL d ret Q (pc + 1) ls (v :: v :: st) h) : J X own cc nL d ret Q pc ls (v :: st) h := by
  intro p l e R s m args below meth c kc ks Z C0 hR H locs la hl hP hS
  exact lv_dup C0.1 C0.2.1 hd ((mv_cat X v).trans hc) (k p l e R s m args below meth c kc ks Z C0 hR H locs la hl hP hS)
theorem J_pop {v : Value} (hd : decode cc pc = .ok (.pop, 1)) (hc : v.category = 1) (k : J X own cc nL d ret Q (pc + 1) ls st h) : J X own cc nL d ret Q pc ls (v :: st) h := by
  intro p l e R s m args below meth c kc ks Z C0 hR H locs la hl hP hS
  exact lv_pop C0.1 C0.2.1 hd ((mv_cat X v).trans hc) (k p l e R s m args below meth c kc ks Z C0 hR H locs la hl hP hS)
theorem J_dup_x1 {v w : Value} (hd : decode cc pc = .ok (.dup_x1, 1)) (hc : v.category = 1) (hc2 : w.category = 1) (k : J X own cc nL d ret Q (pc + 1) ls (v :: w :: v :: st) h) : J X own cc nL d ret Q pc ls (v :: w :: st) h := by
  intro p l e R s m args below meth c kc ks Z C0 hR H locs la hl hP hS
  exact lv_dup_x1 C0.1 C0.2.1 hd ((mv_cat X v).trans hc) ((mv_cat X w).trans hc2) (k p l e R s m args below meth c kc ks Z C0 hR H locs la hl hP hS)
theorem J_dup_x2 {v w z : Value} (hd : decode cc pc = .ok (.dup_x2, 1)) (hc : v.category = 1) (hc2 : w.category = 1) (hc3 : z.category = 1) (k : J X own cc nL d ret Q (pc + 1) ls (v :: w :: z :: v :: st) h) : J X own cc nL d ret Q pc ls (v :: w :: z :: st) h := by
  intro p l e R s m args below meth c kc ks Z C0 hR H locs la hl hP hS
  exact lv_dup_x2 C0.1 C0.2.1 hd ((mv_cat X v).trans hc) ((mv_cat X w).trans hc2) ((mv_cat X z).trans hc3) (k p l e R s m args below meth c kc ks Z C0 hR H locs la hl hP hS)
theorem J_dup2 {v w : Value} (hd : decode cc pc = .ok (.dup2, 1)) (hc : v.category = 1) (hc2 : w.category = 1) (k : J X own cc nL d ret Q (pc + 1) ls (v :: w :: v :: w :: st) h) : J X own cc nL d ret Q pc ls (v :: w :: st) h := by
  intro p l e R s m args below meth c kc ks Z C0 hR H locs la hl hP hS
  exact lv_dup2_11 C0.1 C0.2.1 hd ((mv_cat X v).trans hc) ((mv_cat X w).trans hc2) (k p l e R s m args below meth c kc ks Z C0 hR H locs la hl hP hS)
theorem J_topi {a b : Int32} (e : a = b) (k : J X own cc nL d ret Q pc ls (.int b :: st) h) : J X own cc nL d ret Q pc ls (.int a :: st) h := e ▸ k
theorem J_goto {off : Int} {tgt : Nat} (hd : decode cc pc = .ok (.goto off, 3)) (ht : (pc : Int) + off = (tgt : Int)) (k : J X own cc nL d ret Q tgt ls st h) : J X own cc nL d ret Q pc ls st h := by
  intro p l e R s m args below meth c kc ks Z C0 hR H locs la hl hP hS
  exact lv_goto C0.1 C0.2.1 hd ht (k p l e R s m args below meth c kc ks Z C0 hR H locs la hl hP hS)
theorem J_if_eq {a : Int32} {off : Int} {tgt : Nat} (hd : decode cc pc = .ok (.ifCond .eq off, 3)) (ht : (pc : Int) + off = (tgt : Int)) (kt : a = 0 → J X own cc nL d ret Q tgt ls st h) (kf : ¬ a = 0 → J X own cc nL d ret Q (pc + 3) ls st h) : J X own cc nL d ret Q pc ls (.int a :: st) h := by
  intro p l e R s m args below meth c kc ks Z C0 hR H locs la hl hP hS
  exact lv_if_eq C0.1 C0.2.1 hd ht (fun z => kt z p l e R s m args below meth c kc ks Z C0 hR H locs la hl hP hS) (fun z => kf z p l e R s m args below meth c kc ks Z C0 hR H locs la hl hP hS)
theorem J_icmp_eq {a b : Int32} {off : Int} {tgt : Nat} (hd : decode cc pc = .ok (.if_icmp .eq off, 3)) (ht : (pc : Int) + off = (tgt : Int)) (kt : a = b → J X own cc nL d ret Q tgt ls st h) (kf : ¬ a = b → J X own cc nL d ret Q (pc + 3) ls st h) : J X own cc nL d ret Q pc ls (.int b :: .int a :: st) h := by
  intro p l e R s m args below meth c kc ks Z C0 hR H locs la hl hP hS
  exact lv_icmp_eq C0.1 C0.2.1 hd ht (fun z => kt z p l e R s m args below meth c kc ks Z C0 hR H locs la hl hP hS) (fun z => kf z p l e R s m args below meth c kc ks Z C0 hR H locs la hl hP hS)
theorem J_if_ne {a : Int32} {off : Int} {tgt : Nat} (hd : decode cc pc = .ok (.ifCond .ne off, 3)) (ht : (pc : Int) + off = (tgt : Int)) (kt : ¬ a = 0 → J X own cc nL d ret Q tgt ls st h) (kf : a = 0 → J X own cc nL d ret Q (pc + 3) ls st h) : J X own cc nL d ret Q pc ls (.int a :: st) h := by
  intro p l e R s m args below meth c kc ks Z C0 hR H locs la hl hP hS
  exact lv_if_ne C0.1 C0.2.1 hd ht (fun z => kt z p l e R s m args below meth c kc ks Z C0 hR H locs la hl hP hS) (fun z => kf z p l e R s m args below meth c kc ks Z C0 hR H locs la hl hP hS)
theorem J_icmp_ne {a b : Int32} {off : Int} {tgt : Nat} (hd : decode cc pc = .ok (.if_icmp .ne off, 3)) (ht : (pc : Int) + off = (tgt : Int)) (kt : ¬ a = b → J X own cc nL d ret Q tgt ls st h) (kf : a = b → J X own cc nL d ret Q (pc + 3) ls st h) : J X own cc nL d ret Q pc ls (.int b :: .int a :: st) h := by
  intro p l e R s m args below meth c kc ks Z C0 hR H locs la hl hP hS
  exact lv_icmp_ne C0.1 C0.2.1 hd ht (fun z => kt z p l e R s m args below meth c kc ks Z C0 hR H locs la hl hP hS) (fun z => kf z p l e R s m args below meth c kc ks Z C0 hR H locs la hl hP hS)
theorem J_if_lt {a : Int32} {off : Int} {tgt : Nat} (hd : decode cc pc = .ok (.ifCond .lt off, 3)) (ht : (pc : Int) + off = (tgt : Int)) (kt : a < 0 → J X own cc nL d ret Q tgt ls st h) (kf : ¬ a < 0 → J X own cc nL d ret Q (pc + 3) ls st h) : J X own cc nL d ret Q pc ls (.int a :: st) h := by
  intro p l e R s m args below meth c kc ks Z C0 hR H locs la hl hP hS
  exact lv_if_lt C0.1 C0.2.1 hd ht (fun z => kt z p l e R s m args below meth c kc ks Z C0 hR H locs la hl hP hS) (fun z => kf z p l e R s m args below meth c kc ks Z C0 hR H locs la hl hP hS)
theorem J_icmp_lt {a b : Int32} {off : Int} {tgt : Nat} (hd : decode cc pc = .ok (.if_icmp .lt off, 3)) (ht : (pc : Int) + off = (tgt : Int)) (kt : a < b → J X own cc nL d ret Q tgt ls st h) (kf : ¬ a < b → J X own cc nL d ret Q (pc + 3) ls st h) : J X own cc nL d ret Q pc ls (.int b :: .int a :: st) h := by
  intro p l e R s m args below meth c kc ks Z C0 hR H locs la hl hP hS
  exact lv_icmp_lt C0.1 C0.2.1 hd ht (fun z => kt z p l e R s m args below meth c kc ks Z C0 hR H locs la hl hP hS) (fun z => kf z p l e R s m args below meth c kc ks Z C0 hR H locs la hl hP hS)
theorem J_if_ge {a : Int32} {off : Int} {tgt : Nat} (hd : decode cc pc = .ok (.ifCond .ge off, 3)) (ht : (pc : Int) + off = (tgt : Int)) (kt : 0 ≤ a → J X own cc nL d ret Q tgt ls st h) (kf : ¬ 0 ≤ a → J X own cc nL d ret Q (pc + 3) ls st h) : J X own cc nL d ret Q pc ls (.int a :: st) h := by
  intro p l e R s m args below meth c kc ks Z C0 hR H locs la hl hP hS
  exact lv_if_ge C0.1 C0.2.1 hd ht (fun z => kt z p l e R s m args below meth c kc ks Z C0 hR H locs la hl hP hS) (fun z => kf z p l e R s m args below meth c kc ks Z C0 hR H locs la hl hP hS)
theorem J_icmp_ge {a b : Int32} {off : Int} {tgt : Nat} (hd : decode cc pc = .ok (.if_icmp .ge off, 3)) (ht : (pc : Int) + off = (tgt : Int)) (kt : b ≤ a → J X own cc nL d ret Q tgt ls st h) (kf : ¬ b ≤ a → J X own cc nL d ret Q (pc + 3) ls st h) : J X own cc nL d ret Q pc ls (.int b :: .int a :: st) h := by
  intro p l e R s m args below meth c kc ks Z C0 hR H locs la hl hP hS
  exact lv_icmp_ge C0.1 C0.2.1 hd ht (fun z => kt z p l e R s m args below meth c kc ks Z C0 hR H locs la hl hP hS) (fun z => kf z p l e R s m args below meth c kc ks Z C0 hR H locs la hl hP hS)
theorem J_if_gt {a : Int32} {off : Int} {tgt : Nat} (hd : decode cc pc = .ok (.ifCond .gt off, 3)) (ht : (pc : Int) + off = (tgt : Int)) (kt : 0 < a → J X own cc nL d ret Q tgt ls st h) (kf : ¬ 0 < a → J X own cc nL d ret Q (pc + 3) ls st h) : J X own cc nL d ret Q pc ls (.int a :: st) h := by
  intro p l e R s m args below meth c kc ks Z C0 hR H locs la hl hP hS
  exact lv_if_gt C0.1 C0.2.1 hd ht (fun z => kt z p l e R s m args below meth c kc ks Z C0 hR H locs la hl hP hS) (fun z => kf z p l e R s m args below meth c kc ks Z C0 hR H locs la hl hP hS)
theorem J_icmp_gt {a b : Int32} {off : Int} {tgt : Nat} (hd : decode cc pc = .ok (.if_icmp .gt off, 3)) (ht : (pc : Int) + off = (tgt : Int)) (kt : b < a → J X own cc nL d ret Q tgt ls st h) (kf : ¬ b < a → J X own cc nL d ret Q (pc + 3) ls st h) : J X own cc nL d ret Q pc ls (.int b :: .int a :: st) h := by
  intro p l e R s m args below meth c kc ks Z C0 hR H locs la hl hP hS
  exact lv_icmp_gt C0.1 C0.2.1 hd ht (fun z => kt z p l e R s m args below meth c kc ks Z C0 hR H locs la hl hP hS) (fun z => kf z p l e R s m args below meth c kc ks Z C0 hR H locs la hl hP hS)
theorem J_if_le {a : Int32} {off : Int} {tgt : Nat} (hd : decode cc pc = .ok (.ifCond .le off, 3)) (ht : (pc : Int) + off = (tgt : Int)) (kt : a ≤ 0 → J X own cc nL d ret Q tgt ls st h) (kf : ¬ a ≤ 0 → J X own cc nL d ret Q (pc + 3) ls st h) : J X own cc nL d ret Q pc ls (.int a :: st) h := by
  intro p l e R s m args below meth c kc ks Z C0 hR H locs la hl hP hS
  exact lv_if_le C0.1 C0.2.1 hd ht (fun z => kt z p l e R s m args below meth c kc ks Z C0 hR H locs la hl hP hS) (fun z => kf z p l e R s m args below meth c kc ks Z C0 hR H locs la hl hP hS)
theorem J_icmp_le {a b : Int32} {off : Int} {tgt : Nat} (hd : decode cc pc = .ok (.if_icmp .le off, 3)) (ht : (pc : Int) + off = (tgt : Int)) (kt : a ≤ b → J X own cc nL d ret Q tgt ls st h) (kf : ¬ a ≤ b → J X own cc nL d ret Q (pc + 3) ls st h) : J X own cc nL d ret Q pc ls (.int b :: .int a :: st) h := by
  intro p l e R s m args below meth c kc ks Z C0 hR H locs la hl hP hS
  exact lv_icmp_le C0.1 C0.2.1 hd ht (fun z => kt z p l e R s m args below meth c kc ks Z C0 hR H locs la hl hP hS) (fun z => kf z p l e R s m args below meth c kc ks Z C0 hR H locs la hl hP hS)
theorem J_tabOut {dflt lo hi : Int} {offs : Array Int} {len : Nat} {a : Int32} {tgt : Nat} (hd : decode cc pc = .ok (.tableswitch dflt lo hi offs, len)) (hz : a.toInt < lo ∨ hi < a.toInt) (ht : (pc : Int) + dflt = (tgt : Int)) (k : J X own cc nL d ret Q tgt ls st h) : J X own cc nL d ret Q pc ls (.int a :: st) h := by
  intro p l e R s m args below meth c kc ks Z C0 hR H locs la hl hP hS
  exact lv_tableOut C0.1 C0.2.1 hd hz ht (k p l e R s m args below meth c kc ks Z C0 hR H locs la hl hP hS)
theorem J_tabIn {dflt lo hi : Int} {offs : Array Int} {len : Nat} {a : Int32} {off : Int} {tgt : Nat} (hd : decode cc pc = .ok (.tableswitch dflt lo hi offs, len)) (h1 : ¬ a.toInt < lo) (h2 : ¬ hi < a.toInt) (ho : offs[(a.toInt - lo).toNat]? = some off) (ht : (pc : Int) + off = (tgt : Int)) (k : J X own cc nL d ret Q tgt ls st h) : J X own cc nL d ret Q pc ls (.int a :: st) h := by
  intro p l e R s m args below meth c kc ks Z C0 hR H locs la hl hP hS
  exact lv_tableIn C0.1 C0.2.1 hd h1 h2 ho ht (k p l e R s m args below meth c kc ks Z C0 hR H locs la hl hP hS)
theorem J_iload {i : Nat} {x : Int32} (hd : decode cc pc = .ok (.iload i, 2)) (hv : ls[i]? = some (some (.int x))) (k : J X own cc nL d ret Q (pc + 2) ls (.int x :: st) h) : J X own cc nL d ret Q pc ls st h := by
  intro p l e R s m args below meth c kc ks Z C0 hR H locs la hl hP hS
  exact lv_iload C0.1 C0.2.1 hd (jls_at hl hv) (k p l e R s m args below meth c kc ks Z C0 hR H locs la hl hP hS)
theorem J_iload_n {n : Fin 4} {i : Nat} {x : Int32} (hd : decode cc pc = .ok (.iload_n n, 1)) (hi : (n : Nat) = i) (hv : ls[i]? = some (some (.int x))) (k : J X own cc nL d ret Q (pc + 1) ls (.int x :: st) h) : J X own cc nL d ret Q pc ls st h := by
  intro p l e R s m args below meth c kc ks Z C0 hR H locs la hl hP hS
  exact lv_iload_n C0.1 C0.2.1 hd hi (jls_at hl hv) (k p l e R s m args below meth c kc ks Z C0 hR H locs la hl hP hS)
theorem J_istore {i : Nat} {x : Int32} (hd : decode cc pc = .ok (.istore i, 2)) (hn : i < nL) (hp : ∀ j, j + 1 = i → ∀ x, ls[j]? = some x → lok x = true) (k : J X own cc nL d ret Q (pc + 2) (ls.set i (some (.int x))) st h) : J X own cc nL d ret Q pc ls (.int x :: st) h := by
  intro p l e R s m args below meth c kc ks Z C0 hR H locs la hl hP hS
  exact lv_istore C0.1 C0.2.1 hd hl hn rfl (fun la hl => k p l e R s m args below meth c kc ks Z C0 hR H locs la (jls_set1 hp hl) hP hS)
theorem J_istore_n {n : Fin 4} {i : Nat} {x : Int32} (hd : decode cc pc = .ok (.istore_n n, 1)) (hi : (n : Nat) = i) (hn : i < nL) (hp : ∀ j, j + 1 = i → ∀ x, ls[j]? = some x → lok x = true) (k : J X own cc nL d ret Q (pc + 1) (ls.set i (some (.int x))) st h) : J X own cc nL d ret Q pc ls (.int x :: st) h := by
  intro p l e R s m args below meth c kc ks Z C0 hR H locs la hl hP hS
  exact lv_istore_n C0.1 C0.2.1 hd hi hl hn rfl (fun la hl => k p l e R s m args below meth c kc ks Z C0 hR H locs la (jls_set1 hp hl) hP hS)
theorem J_lload {i : Nat} {x : Int64} (hd : decode cc pc = .ok (.lload i, 2)) (hv : ls[i]? = some (some (.long x))) (k : J X own cc nL d ret Q (pc + 2) ls (.long x :: st) h) : J X own cc nL d ret Q pc ls st h := by
  intro p l e R s m args below meth c kc ks Z C0 hR H locs la hl hP hS
  exact lv_lload C0.1 C0.2.1 hd (jls_at hl hv) (k p l e R s m args below meth c kc ks Z C0 hR H locs la hl hP hS)
theorem J_lload_n {n : Fin 4} {i : Nat} {x : Int64} (hd : decode cc pc = .ok (.lload_n n, 1)) (hi : (n : Nat) = i) (hv : ls[i]? = some (some (.long x))) (k : J X own cc nL d ret Q (pc + 1) ls (.long x :: st) h) : J X own cc nL d ret Q pc ls st h := by
  intro p l e R s m args below meth c kc ks Z C0 hR H locs la hl hP hS
  exact lv_lload_n C0.1 C0.2.1 hd hi (jls_at hl hv) (k p l e R s m args below meth c kc ks Z C0 hR H locs la hl hP hS)
theorem J_lstore {i : Nat} {x : Int64} (hd : decode cc pc = .ok (.lstore i, 2)) (hn : i + 1 < nL) (hp : ∀ j, j + 1 = i → ∀ x, ls[j]? = some x → lok x = true) (k : J X own cc nL d ret Q (pc + 2) ((ls.set i (some (.long x))).set (i + 1) none) st h) : J X own cc nL d ret Q pc ls (.long x :: st) h := by
  intro p l e R s m args below meth c kc ks Z C0 hR H locs la hl hP hS
  exact lv_lstore C0.1 C0.2.1 hd hl hn rfl (fun la hl => k p l e R s m args below meth c kc ks Z C0 hR H locs la (jls_set2 hp hl) hP hS)
theorem J_lstore_n {n : Fin 4} {i : Nat} {x : Int64} (hd : decode cc pc = .ok (.lstore_n n, 1)) (hi : (n : Nat) = i) (hn : i + 1 < nL) (hp : ∀ j, j + 1 = i → ∀ x, ls[j]? = some x → lok x = true) (k : J X own cc nL d ret Q (pc + 1) ((ls.set i (some (.long x))).set (i + 1) none) st h) : J X own cc nL d ret Q pc ls (.long x :: st) h := by
  intro p l e R s m args below meth c kc ks Z C0 hR H locs la hl hP hS
  exact lv_lstore_n C0.1 C0.2.1 hd hi hl hn rfl (fun la hl => k p l e R s m args below meth c kc ks Z C0 hR H locs la (jls_set2 hp hl) hP hS)
theorem J_aload {i : Nat} {x : Nat} (hd : decode cc pc = .ok (.aload i, 2)) (hv : ls[i]? = some (some (.ref x))) (k : J X own cc nL d ret Q (pc + 2) ls (.ref x :: st) h) : J X own cc nL d ret Q pc ls st h := by
  intro p l e R s m args below meth c kc ks Z C0 hR H locs la hl hP hS
  exact lv_aload C0.1 C0.2.1 hd (jls_at hl hv) (k p l e R s m args below meth c kc ks Z C0 hR H locs la hl hP hS)
theorem J_aload_n {n : Fin 4} {i : Nat} {x : Nat} (hd : decode cc pc = .ok (.aload_n n, 1)) (hi : (n : Nat) = i) (hv : ls[i]? = some (some (.ref x))) (k : J X own cc nL d ret Q (pc + 1) ls (.ref x :: st) h) : J X own cc nL d ret Q pc ls st h := by
  intro p l e R s m args below meth c kc ks Z C0 hR H locs la hl hP hS
  exact lv_aload_n C0.1 C0.2.1 hd hi (jls_at hl hv) (k p l e R s m args below meth c kc ks Z C0 hR H locs la hl hP hS)
theorem J_astore {i : Nat} {x : Nat} (hd : decode cc pc = .ok (.astore i, 2)) (hn : i < nL) (hp : ∀ j, j + 1 = i → ∀ x, ls[j]? = some x → lok x = true) (k : J X own cc nL d ret Q (pc + 2) (ls.set i (some (.ref x))) st h) : J X own cc nL d ret Q pc ls (.ref x :: st) h := by
  intro p l e R s m args below meth c kc ks Z C0 hR H locs la hl hP hS
  exact lv_astore C0.1 C0.2.1 hd hl hn rfl (fun la hl => k p l e R s m args below meth c kc ks Z C0 hR H locs la (jls_set1 hp hl) hP hS)
theorem J_astore_n {n : Fin 4} {i : Nat} {x : Nat} (hd : decode cc pc = .ok (.astore_n n, 1)) (hi : (n : Nat) = i) (hn : i < nL) (hp : ∀ j, j + 1 = i → ∀ x, ls[j]? = some x → lok x = true) (k : J X own cc nL d ret Q (pc + 1) (ls.set i (some (.ref x))) st h) : J X own cc nL d ret Q pc ls (.ref x :: st) h := by
  intro p l e R s m args below meth c kc ks Z C0 hR H locs la hl hP hS
  exact lv_astore_n C0.1 C0.2.1 hd hi hl hn rfl (fun la hl => k p l e R s m args below meth c kc ks Z C0 hR H locs la (jls_set1 hp hl) hP hS)
theorem J_iinc {i : Nat} {n : Int} {x v : Int32} (hd : decode cc pc = .ok (.iinc i n, 3)) (hv : ls[i]? = some (some (.int x))) (he : x + Int32.ofInt n = v) (hn : i < nL) (hp : ∀ j, j + 1 = i → ∀ x, ls[j]? = some x → lok x = true) (k : J X own cc nL d ret Q (pc + 3) (ls.set i (some (.int v))) st h) : J X own cc nL d ret Q pc ls st h := by
  intro p l e R s m args below meth c kc ks Z C0 hR H locs la hl hP hS
  obtain ⟨kk, hkk⟩ := List.getElem?_of_mem (jls_mem.mpr ⟨i, .int x, hv, rfl⟩ : (0 + i, mv X (.int x)) ∈ jls X 0 ls)
  rw [Nat.zero_add] at hkk
  exact lv_iinc C0.1 C0.2.1 hd hl hkk he hn rfl (fun la hl => k p l e R s m args below meth c kc ks Z C0 hR H locs la (jls_set1 hp hl) hP hS)
theorem J_get {idx ci q a : Nat} {fs : List Value} {v : Value} (hd : decode cc pc = .ok (.getfield idx, 3)) (fl : jFL own idx ci q) (hc : hAt h a (oB ci fs)) (hv : fs[q]? = some v) (k : J X own cc nL d ret Q (pc + 3) ls (v :: st) h) : J X own cc nL d ret Q pc ls (.ref a :: st) h := by
  intro p l e R s m args below meth c kc ks Z C0 hR H locs la hl hP hS
  obtain ⟨C, T, N, h1, h2, h3, h4⟩ := fl
  obtain ⟨ha, he⟩ := hc
  exact va_get C0.1 C0.2.1 C0.2.2.2.2.1 h3 C0.2.2.2.1 C0.2.2.2.2.2.1 hP a (fs := fs.map (mv X)) (ci := ci) (by rw [wl_at ha, he]; rfl) h1 q h2 (C0.2.2.2.2.1 _ h4) (fun _ h9 => h9) (v := mv X v) (by rw [List.getElem?_map, hv]; rfl) hd (k p l e R s m args below meth c kc ks Z C0 hR H locs la hl hP hS)
theorem J_put {idx ci q a : Nat} {ty : FieldType} {fs : List Value} {v : Value} (hd : decode cc pc = .ok (.putfield idx, 3)) (fl : jFP own idx ci q ty) (hc : hAt h a (oB ci fs)) (hq : q < fs.length) (hn : narrow ty (mv X v) = mv X v) (hf : fits ty (mv X v) = true) (k : J X own cc nL d ret Q (pc + 3) ls st (hu h a (oB ci (fs.set q v)))) : J X own cc nL d ret Q pc ls (v :: .ref a :: st) h := by
  intro p l e R s m args below meth c kc ks Z C0 hR H locs la hl hP hS
  obtain ⟨C, T, N, ty0, h1, h2, h3, h4, h5, h6, h7, h8⟩ := fl
  obtain ⟨ha, he⟩ := hc
  have hset : (wl X h).set a (jad X a, .inr (ci, (fs.map (mv X)).set q (mv X v))) = wl X (hu h a (oB ci (fs.set q v))) := by
    rw [← wl_set ha]
    show _ = (wl X h).set a (jad X a, .inr (ci, (fs.set q v).map (mv X)))
    rw [List.map_set]
  exact va_put C0.1 C0.2.1 C0.2.2.2.2.1 h3 ty0 h5 h6 C0.2.2.2.1 C0.2.2.2.2.2.1 hP (wl_D C0.2.2.2.2.2.2.1) hS a (fs := fs.map (mv X)) (ci := ci) (by rw [wl_at ha, he]; rfl) h1 q h2 (C0.2.2.2.2.1 _ h4) (fun _ h9 => h9) h7 h8 hn hf (by rw [List.length_map]; exact hq) hd (fun H locs hP _ hS => k p l e R s m args below meth c kc ks Z C0 hR H locs la hl (hset ▸ hP) hS)
theorem J_iald {a n j : Nat} {f : Nat → Int32} {i : Int32} (hd : decode cc pc = .ok (.iaload, 1)) (hc : hAt h a (oA 0 n f)) (hi : i = nI j) (hj : j < n) (hn : n < 2 ^ 31) (k : J X own cc nL d ret Q (pc + 1) ls (.int (f j) :: st) h) : J X own cc nL d ret Q pc ls (.int i :: .ref a :: st) h := by
  intro p l e R s m args below meth c kc ks Z C0 hR H locs la hl hP hS
  subst hi
  obtain ⟨ha, he⟩ := hc
  refine va_iald C0.1 C0.2.1 C0.2.2.2.2.2.1 hP a 0 (f := f) (n := n) (cA := jK X 0) (by rw [wl_at ha, he]; rfl) rfl (vp_in_nI hj hn) hd ?_
  rw [nI_clamp (Nat.lt_trans hj hn)]
  exact (k p l e R s m args below meth c kc ks Z C0 hR H locs la hl hP hS)
theorem J_zald {a n j : Nat} {f : Nat → Int32} {i : Int32} (hd : decode cc pc = .ok (.baload, 1)) (hc : hAt h a (oA 1 n f)) (hi : i = nI j) (hj : j < n) (hn : n < 2 ^ 31) (k : J X own cc nL d ret Q (pc + 1) ls (.int (f j) :: st) h) : J X own cc nL d ret Q pc ls (.int i :: .ref a :: st) h := by
  intro p l e R s m args below meth c kc ks Z C0 hR H locs la hl hP hS
  subst hi
  obtain ⟨ha, he⟩ := hc
  refine va_zald C0.1 C0.2.1 C0.2.2.2.2.2.1 hP a 1 (f := f) (n := n) (cA := jK X 1) (by rw [wl_at ha, he]; rfl) rfl (vp_in_nI hj hn) hd ?_
  rw [nI_clamp (Nat.lt_trans hj hn)]
  exact (k p l e R s m args below meth c kc ks Z C0 hR H locs la hl hP hS)
theorem J_aald {a n j t b : Nat} {f : Nat → Option Nat} {i : Int32} (hd : decode cc pc = .ok (.aaload, 1)) (hc : hAt h a (oR t n f)) (ht : ∃ C, (jty X)[t]? = some (jK X t, .object C)) (hi : i = nI j) (hj : j < n) (hn : n < 2 ^ 31) (hf : f j = some b) (k : J X own cc nL d ret Q (pc + 1) ls (.ref b :: st) h) : J X own cc nL d ret Q pc ls (.int i :: .ref a :: st) h := by
  intro p l e R s m args below meth c kc ks Z C0 hR H locs la hl hP hS
  subst hi
  obtain ⟨ha, he⟩ := hc
  obtain ⟨C, ht⟩ := ht
  refine va_aldq C0.1 C0.2.1 C0.2.2.2.2.2.1 hP a t (f := fun j => (f j).map (jad X)) (n := n) (cA := jK X t) (by rw [wl_at ha, he]; rfl) ht (vp_in_nI hj hn) hd ?_
  rw [nI_clamp (Nat.lt_trans hj hn), hf]
  exact (k p l e R s m args below meth c kc ks Z C0 hR H locs la hl hP hS)
theorem J_alen {a n t : Nat} {f : Nat → Int32} (hd : decode cc pc = .ok (.arraylength, 1)) (hc : hAt h a (oA t n f)) (ht : ∃ ty, (jty X)[t]? = some (jK X t, ty)) (k : J X own cc nL d ret Q (pc + 1) ls (.int (nI n) :: st) h) : J X own cc nL d ret Q pc ls (.ref a :: st) h := by
  intro p l e R s m args below meth c kc ks Z C0 hR H locs la hl hP hS
  obtain ⟨ha, he⟩ := hc
  obtain ⟨ty, ht⟩ := ht
  exact va_alen C0.1 C0.2.1 C0.2.2.2.2.2.1 hP a t (x := (n, .inl f)) (cA := jK X t) (by rw [wl_at ha, he]; rfl) ht (v := nI n) rfl hd (k p l e R s m args below meth c kc ks Z C0 hR H locs la hl hP hS)
theorem J_iast {a n j : Nat} {f : Nat → Int32} {i x : Int32} (hd : decode cc pc = .ok (.iastore, 1)) (hc : hAt h a (oA 0 n f)) (hi : i = nI j) (hj : j < n) (hn : n < 2 ^ 31) (k : J X own cc nL d ret Q (pc + 1) ls st (hu h a (oA 0 n (upd f j x)))) : J X own cc nL d ret Q pc ls (.int x :: .int i :: .ref a :: st) h := by
  intro p l e R s m args below meth c kc ks Z C0 hR H locs la hl hP hS
  subst hi
  obtain ⟨ha, he⟩ := hc
  have hset : (wl X h).set a (jad X a, .inl (jK X 0, n, .inl (upd f j x))) = wl X (hu h a (oA 0 n (upd f j x))) := wl_set (c := oA 0 n (upd f j x)) ha
  refine va_iast C0.1 C0.2.1 C0.2.2.2.2.2.1 hP (wl_D C0.2.2.2.2.2.2.1) hS a 0 (f := f) (n := n) (cA := jK X 0) (by rw [wl_at ha, he]; rfl) rfl (vp_in_nI hj hn) hd ?_
  rw [nI_clamp (Nat.lt_trans hj hn)]
  exact (fun H locs hP _ hS => k p l e R s m args below meth c kc ks Z C0 hR H locs la hl (hset ▸ hP) hS)
theorem J_zast {a n j : Nat} {f : Nat → Int32} {i x : Int32} (hd : decode cc pc = .ok (.bastore, 1)) (hc : hAt h a (oA 1 n f)) (hi : i = nI j) (hj : j < n) (hn : n < 2 ^ 31) (hx : vp_nar .boolean x = x) (k : J X own cc nL d ret Q (pc + 1) ls st (hu h a (oA 1 n (upd f j x)))) : J X own cc nL d ret Q pc ls (.int x :: .int i :: .ref a :: st) h := by
  intro p l e R s m args below meth c kc ks Z C0 hR H locs la hl hP hS
  subst hi
  obtain ⟨ha, he⟩ := hc
  have hset : (wl X h).set a (jad X a, .inl (jK X 1, n, .inl (upd f j x))) = wl X (hu h a (oA 1 n (upd f j x))) := wl_set (c := oA 1 n (upd f j x)) ha
  refine va_zast C0.1 C0.2.1 C0.2.2.2.2.2.1 hP (wl_D C0.2.2.2.2.2.2.1) hS a 1 (f := f) (n := n) (cA := jK X 1) (by rw [wl_at ha, he]; rfl) rfl (vp_in_nI hj hn) hd ?_
  rw [nI_clamp (Nat.lt_trans hj hn), hx]
  exact (fun H locs hP _ hS => k p l e R s m args below meth c kc ks Z C0 hR H locs la hl (hset ▸ hP) hS)
theorem J_aast {a n j t b ci : Nat} {r : vw_C} {vs : List Value} {f : Nat → Option Nat} {i : Int32} (hd : decode cc pc = .ok (.aastore, 1)) (hc : hAt h a (oR t n f)) (hb : hAt h b (oB ci vs)) (hr : jcl[ci]? = some r) (ht : (jty X)[t]? = some (jK X t, .object r.1)) (hi : i = nI j) (hj : j < n) (hn : n < 2 ^ 31) (k : J X own cc nL d ret Q (pc + 1) ls st (hu h a (oR t n (va_up f j (some b))))) : J X own cc nL d ret Q pc ls (.ref b :: .int i :: .ref a :: st) h := by
  intro p l e R s m args below meth c kc ks Z C0 hR H locs la hl hP hS
  subst hi
  obtain ⟨ha, he⟩ := hc
  obtain ⟨hb, hbe⟩ := hb
  have hset : (wl X h).set a (jad X a, .inl (jK X t, n, .inr (.inr (.inr (.inr (va_up (fun j => (f j).map (jad X)) j (some (jad X b)))))))) = wl X (hu h a (oR t n (va_up f j (some b)))) := by
    rw [← wl_set ha]
    show _ = (wl X h).set a (jad X a, .inl (jK X t, n, .inr (.inr (.inr (.inr (fun q => (va_up f j (some b) q).map (jad X)))))))
    have e : va_up (fun j => (f j).map (jad X)) j (some (jad X b)) = fun q => (va_up f j (some b) q).map (jad X) := by
      funext q
      unfold va_up
      split <;> rfl
    rw [e]
  refine va_astq C0.1 C0.2.1 C0.2.2.2.2.2.1 hP (wl_D C0.2.2.2.2.2.2.1) hS a t b ci (f := fun j => (f j).map (jad X)) (n := n) (cA := jK X t) (vs := vs.map (mv X)) (v := jad X b) (by rw [wl_at ha, he]; rfl) ht (by rw [wl_at hb, hbe]; rfl) hr (vp_in_nI hj hn) hd ?_
  rw [nI_clamp (Nat.lt_trans hj hn)]
  exact (fun H locs hP _ hS => k p l e R s m args below meth c kc ks Z C0 hR H locs la hl (hset ▸ hP) hS)
theorem J_gs0 {idx : Nat} (hd : decode cc pc = .ok (.getstatic idx, 3)) (hf : Cond.fieldLink own idx RX6 "HIGHEST_SETTING" "[I" ∈ jtb) (k : J X own cc nL d ret Q (pc + 3) ls (.ref 1000 :: st) h) : J X own cc nL d ret Q pc ls st h := by
  intro p l e R s m args below meth c kc ks Z C0 hR H locs la hl hP hS
  exact va_gets C0.1 C0.2.1 C0.2.2.2.2.2.2.2.1.1.1 hS C0.2.2.2.1 (C0.2.2.2.2.1 _ hf) (fun _ h9 => h9) hd (k p l e R s m args below meth c kc ks Z C0 hR H locs la hl hP hS)
theorem J_tl0 {j : Nat} {i : Int32} (hd : decode cc pc = .ok (.iaload, 1)) (hi : i = nI j) (hj : j < 3) (k : J X own cc nL d ret Q (pc + 1) ls (.int (jt0 j) :: st) h) : J X own cc nL d ret Q pc ls (.int i :: .ref 1000 :: st) h := by
  intro p l e R s m args below meth c kc ks Z C0 hR H locs la hl hP hS
  subst hi
  exact va_ti C0.1 C0.2.1 C0.2.2.2.2.2.2.2.1.1.2 hS (vp_in_nI hj (by decide)) (v := .int (jt0 j)) (by rw [nI_clamp (Nat.lt_trans hj (by decide))]) hd (k p l e R s m args below meth c kc ks Z C0 hR H locs la hl hP hS)
theorem J_tn0 (hd : decode cc pc = .ok (.arraylength, 1)) (k : J X own cc nL d ret Q (pc + 1) ls (.int (nI 3) :: st) h) : J X own cc nL d ret Q pc ls (.ref 1000 :: st) h := by
  intro p l e R s m args below meth c kc ks Z C0 hR H locs la hl hP hS
  exact va_tlen C0.1 C0.2.1 C0.2.2.2.2.2.2.2.1.1.2 hS (v := nI 3) rfl hd (k p l e R s m args below meth c kc ks Z C0 hR H locs la hl hP hS)
theorem J_gs1 {idx : Nat} (hd : decode cc pc = .ok (.getstatic idx, 3)) (hf : Cond.fieldLink own idx RX6 "LEAST_PART" "[I" ∈ jtb) (k : J X own cc nL d ret Q (pc + 3) ls (.ref 1001 :: st) h) : J X own cc nL d ret Q pc ls st h := by
  intro p l e R s m args below meth c kc ks Z C0 hR H locs la hl hP hS
  exact va_gets C0.1 C0.2.1 C0.2.2.2.2.2.2.2.1.2.1.1 hS C0.2.2.2.1 (C0.2.2.2.2.1 _ hf) (fun _ h9 => h9) hd (k p l e R s m args below meth c kc ks Z C0 hR H locs la hl hP hS)
theorem J_tl1 {j : Nat} {i : Int32} (hd : decode cc pc = .ok (.iaload, 1)) (hi : i = nI j) (hj : j < 4) (k : J X own cc nL d ret Q (pc + 1) ls (.int (jt1 j) :: st) h) : J X own cc nL d ret Q pc ls (.int i :: .ref 1001 :: st) h := by
  intro p l e R s m args below meth c kc ks Z C0 hR H locs la hl hP hS
  subst hi
  exact va_ti C0.1 C0.2.1 C0.2.2.2.2.2.2.2.1.2.1.2 hS (vp_in_nI hj (by decide)) (v := .int (jt1 j)) (by rw [nI_clamp (Nat.lt_trans hj (by decide))]) hd (k p l e R s m args below meth c kc ks Z C0 hR H locs la hl hP hS)
theorem J_tn1 (hd : decode cc pc = .ok (.arraylength, 1)) (k : J X own cc nL d ret Q (pc + 1) ls (.int (nI 4) :: st) h) : J X own cc nL d ret Q pc ls (.ref 1001 :: st) h := by
  intro p l e R s m args below meth c kc ks Z C0 hR H locs la hl hP hS
  exact va_tlen C0.1 C0.2.1 C0.2.2.2.2.2.2.2.1.2.1.2 hS (v := nI 4) rfl hd (k p l e R s m args below meth c kc ks Z C0 hR H locs la hl hP hS)
theorem J_gs2 {idx : Nat} (hd : decode cc pc = .ok (.getstatic idx, 3)) (hf : Cond.fieldLink own idx RX6 "HIGHEST_PART" "[I" ∈ jtb) (k : J X own cc nL d ret Q (pc + 3) ls (.ref 1002 :: st) h) : J X own cc nL d ret Q pc ls st h := by
  intro p l e R s m args below meth c kc ks Z C0 hR H locs la hl hP hS
  exact va_gets C0.1 C0.2.1 C0.2.2.2.2.2.2.2.1.2.2.1.1 hS C0.2.2.2.1 (C0.2.2.2.2.1 _ hf) (fun _ h9 => h9) hd (k p l e R s m args below meth c kc ks Z C0 hR H locs la hl hP hS)
theorem J_tl2 {j : Nat} {i : Int32} (hd : decode cc pc = .ok (.iaload, 1)) (hi : i = nI j) (hj : j < 4) (k : J X own cc nL d ret Q (pc + 1) ls (.int (jt2 j) :: st) h) : J X own cc nL d ret Q pc ls (.int i :: .ref 1002 :: st) h := by
  intro p l e R s m args below meth c kc ks Z C0 hR H locs la hl hP hS
  subst hi
  exact va_ti C0.1 C0.2.1 C0.2.2.2.2.2.2.2.1.2.2.1.2 hS (vp_in_nI hj (by decide)) (v := .int (jt2 j)) (by rw [nI_clamp (Nat.lt_trans hj (by decide))]) hd (k p l e R s m args below meth c kc ks Z C0 hR H locs la hl hP hS)
theorem J_tn2 (hd : decode cc pc = .ok (.arraylength, 1)) (k : J X own cc nL d ret Q (pc + 1) ls (.int (nI 4) :: st) h) : J X own cc nL d ret Q pc ls (.ref 1002 :: st) h := by
  intro p l e R s m args below meth c kc ks Z C0 hR H locs la hl hP hS
  exact va_tlen C0.1 C0.2.1 C0.2.2.2.2.2.2.2.1.2.2.1.2 hS (v := nI 4) rfl hd (k p l e R s m args below meth c kc ks Z C0 hR H locs la hl hP hS)
theorem J_sld {j : Nat} {i : Int32} (hd : decode cc pc = .ok (.iaload, 1)) (hi : i = nI j) (hj : j < jL X) (hn : jL X < 2 ^ 31) (k : J X own cc nL d ret Q (pc + 1) ls (.int (jx X j) :: st) h) : J X own cc nL d ret Q pc ls (.int i :: .ref 2000 :: st) h := by
  intro p l e R s m args below meth c kc ks Z C0 hR H locs la hl hP hS
  subst hi
  refine va_sld C0.1 C0.2.1 C0.2.2.2.2.2.2.2.1.2.2.2.1 C0.2.2.2.2.2.2.2.1.2.2.2.2.1 C0.2.2.2.2.2.2.2.1.2.2.2.2.2 hS (vp_in_nI hj hn) hd ?_
  rw [nI_clamp (Nat.lt_trans hj hn)]
  exact (k p l e R s m args below meth c kc ks Z C0 hR H locs la hl hP hS)
theorem J_slen (hd : decode cc pc = .ok (.arraylength, 1)) (k : J X own cc nL d ret Q (pc + 1) ls (.int (nI (jL X)) :: st) h) : J X own cc nL d ret Q pc ls (.ref 2000 :: st) h := by
  intro p l e R s m args below meth c kc ks Z C0 hR H locs la hl hP hS
  exact va_slen C0.1 C0.2.1 C0.2.2.2.2.2.2.2.1.2.2.2.1 C0.2.2.2.2.2.2.2.1.2.2.2.2.1 C0.2.2.2.2.2.2.2.1.2.2.2.2.2 hS hd (k p l e R s m args below meth c kc ks Z C0 hR H locs la hl hP hS)
theorem J_mmax {idx : Nat} {a b : Int32} (hd : decode cc pc = .ok (.invokestatic idx, 3)) (hm : Cond.methodLink own idx Lib.Math.max.name ∈ jtb) (hd0 : 0 < d) (hw : (st.map fun v => v.category).sum ≤ 8) (k : J X own cc nL d ret Q (pc + 3) ls (.int (if a < b then b else a) :: st) h) : J X own cc nL d ret Q pc ls (.int b :: .int a :: st) h := by
  intro p l e R s m args below meth c kc ks Z C0 hR H locs la hl hP hS
  have hts := C0.2.2.2.2.1
  have hrm := C0.2.2.2.2.2.2.2.2.1
  exact va_mmax C0.1 C0.2.1 (C0.2.2.1.trans hl.1.symm) C0.2.2.2.1 (hts _ hm) (hts _ jx_max_s) (hts _ jx_math_i) (hts _ jx_max_c) (by omega) (by rw [mv_cats]; omega) C0.2.2.2.2.2.2.2.2.2.1 C0.2.2.2.2.2.2.2.2.2.2.1 hd (k p l e R s m args below meth c kc ks Z C0 hR H locs la hl hP hS)
theorem J_mmin {idx : Nat} {a b : Int32} (hd : decode cc pc = .ok (.invokestatic idx, 3)) (hm : Cond.methodLink own idx Lib.Math.min.name ∈ jtb) (hd0 : 0 < d) (hw : (st.map fun v => v.category).sum ≤ 8) (k : J X own cc nL d ret Q (pc + 3) ls (.int (if b < a then b else a) :: st) h) : J X own cc nL d ret Q pc ls (.int b :: .int a :: st) h := by
  intro p l e R s m args below meth c kc ks Z C0 hR H locs la hl hP hS
  have hts := C0.2.2.2.2.1
  have hrm := C0.2.2.2.2.2.2.2.2.1
  exact va_mmin C0.1 C0.2.1 (C0.2.2.1.trans hl.1.symm) C0.2.2.2.1 (hts _ hm) (hts _ jx_min_s) (hts _ jx_math_i) (hts _ jx_min_c) (by omega) (by rw [mv_cats]; omega) C0.2.2.2.2.2.2.2.2.2.1 C0.2.2.2.2.2.2.2.2.2.2.1 hd (k p l e R s m args below meth c kc ks Z C0 hR H locs la hl hP hS)
theorem J_iret {v : Int32} (hd : decode cc pc = .ok (.ireturn, 1)) (hr : ret = some .int) (hq : Q (some (.int v)) h) : J X own cc nL d ret Q pc ls [.int v] h := by
  intro p l e R s m args below meth c kc ks Z C0 hR H locs la hl hP hS
  exact hR H locs la pc (some (.int v)) h hq ⟨hd, Or.inl hr⟩ hP hS
theorem J_zret {v : Int32} (hd : decode cc pc = .ok (.ireturn, 1)) (hr : ret = some .boolean) (hv : v = 0 ∨ v = 1) (hq : Q (some (.int v)) h) : J X own cc nL d ret Q pc ls [.int v] h := by
  intro p l e R s m args below meth c kc ks Z C0 hR H locs la hl hP hS
  exact hR H locs la pc (some (.int v)) h hq ⟨hd, Or.inr ⟨hr, hv⟩⟩ hP hS
theorem J_lret {v : Int64} (hd : decode cc pc = .ok (.lreturn, 1)) (hr : ret = some .long) (hq : Q (some (.long v)) h) : J X own cc nL d ret Q pc ls [.long v] h := by
  intro p l e R s m args below meth c kc ks Z C0 hR H locs la hl hP hS
  exact hR H locs la pc (some (.long v)) h hq ⟨hr, hd⟩ hP hS
theorem J_aret {v : Nat} (hd : decode cc pc = .ok (.areturn, 1)) (hr : ∃ n, ret = some (.object n)) (hq : Q (some (.ref v)) h) : J X own cc nL d ret Q pc ls [.ref v] h := by
  intro p l e R s m args below meth c kc ks Z C0 hR H locs la hl hP hS
  exact hR H locs la pc (some (.ref v)) h hq ⟨hd, hr⟩ hP hS
theorem J_vret (hd : decode cc pc = .ok (.return_, 1)) (hr : ret = none) (hq : Q none h) : J X own cc nL d ret Q pc ls [] h := by
  intro p l e R s m args below meth c kc ks Z C0 hR H locs la hl hP hS
  exact hR H locs la pc none h hq ⟨hr, hd⟩ hP hS
theorem J_mono {Q2 : Option Value → HF → Prop} (k : J X own cc nL d ret Q2 pc ls st h) (hq : ∀ r h, Q2 r h → Q r h) : J X own cc nL d ret Q pc ls st h := fun p l e R s m args below meth c kc ks Z C0 hR => k p l e R s m args below meth c kc ks Z C0 (fun H locs la pc r h hQ => hR H locs la pc r h (hq r h hQ))
theorem J_iload_0 {t : List (Option Value)} {x : Int32} (hd : decode cc pc = .ok (.iload_n 0, 1)) (k : J X own cc nL d ret Q (pc + 1) (some (.int x) :: t) (.int x :: st) h) : J X own cc nL d ret Q pc (some (.int x) :: t) st h := J_iload_n hd rfl rfl k
theorem J_istore_0 {y : Option Value} {t : List (Option Value)} {x : Int32} (hd : decode cc pc = .ok (.istore_n 0, 1)) (hn : 0 < nL)  (k : J X own cc nL d ret Q (pc + 1) (some (.int x) :: t) st h) : J X own cc nL d ret Q pc (y :: t) (.int x :: st) h := J_istore_n hd rfl hn (fun j hj => by omega) k
theorem J_lload_0 {t : List (Option Value)} {x : Int64} (hd : decode cc pc = .ok (.lload_n 0, 1)) (k : J X own cc nL d ret Q (pc + 1) (some (.long x) :: t) (.long x :: st) h) : J X own cc nL d ret Q pc (some (.long x) :: t) st h := J_lload_n hd rfl rfl k
theorem J_lstore_0 {y z : Option Value} {t : List (Option Value)} {x : Int64} (hd : decode cc pc = .ok (.lstore_n 0, 1)) (hn : 0 + 1 < nL)  (k : J X own cc nL d ret Q (pc + 1) (some (.long x) :: none :: t) st h) : J X own cc nL d ret Q pc (y :: z :: t) (.long x :: st) h := J_lstore_n hd rfl hn (fun j hj => by omega) k
theorem J_aload_0 {t : List (Option Value)} {x : Nat} (hd : decode cc pc = .ok (.aload_n 0, 1)) (k : J X own cc nL d ret Q (pc + 1) (some (.ref x) :: t) (.ref x :: st) h) : J X own cc nL d ret Q pc (some (.ref x) :: t) st h := J_aload_n hd rfl rfl k
theorem J_astore_0 {y : Option Value} {t : List (Option Value)} {x : Nat} (hd : decode cc pc = .ok (.astore_n 0, 1)) (hn : 0 < nL)  (k : J X own cc nL d ret Q (pc + 1) (some (.ref x) :: t) st h) : J X own cc nL d ret Q pc (y :: t) (.ref x :: st) h := J_astore_n hd rfl hn (fun j hj => by omega) k
theorem J_iinc_0 {t : List (Option Value)} {n : Int} {x v : Int32} (hd : decode cc pc = .ok (.iinc 0 n, 3)) (he : x + Int32.ofInt n = v) (hn : 0 < nL)  (k : J X own cc nL d ret Q (pc + 3) (some (.int v) :: t) st h) : J X own cc nL d ret Q pc (some (.int x) :: t) st h := J_iinc hd rfl he hn (fun j hj => by omega) k
theorem J_inc_0 {t : List (Option Value)} {j : Nat} (hd : decode cc pc = .ok (.iinc 0 1, 3)) (hn : 0 < nL)  (k : J X own cc nL d ret Q (pc + 3) (some (.int (nI (j + 1))) :: t) st h) : J X own cc nL d ret Q pc (some (.int (nI j)) :: t) st h := J_iinc_0 hd (nI_1 j) hn  k
theorem J_iload_1 {a0 : Option Value} {t : List (Option Value)} {x : Int32} (hd : decode cc pc = .ok (.iload_n 1, 1)) (k : J X own cc nL d ret Q (pc + 1) (a0 :: some (.int x) :: t) (.int x :: st) h) : J X own cc nL d ret Q pc (a0 :: some (.int x) :: t) st h := J_iload_n hd rfl rfl k
theorem J_istore_1 {a0 : Option Value} {y : Option Value} {t : List (Option Value)} {x : Int32} (hd : decode cc pc = .ok (.istore_n 1, 1)) (hn : 1 < nL) (hp : lok a0 = true) (k : J X own cc nL d ret Q (pc + 1) (a0 :: some (.int x) :: t) st h) : J X own cc nL d ret Q pc (a0 :: y :: t) (.int x :: st) h := J_istore_n hd rfl hn (fun j hj x hx => by have e : j = 0 := (by omega); subst e; cases hx; exact hp) k
theorem J_lload_1 {a0 : Option Value} {t : List (Option Value)} {x : Int64} (hd : decode cc pc = .ok (.lload_n 1, 1)) (k : J X own cc nL d ret Q (pc + 1) (a0 :: some (.long x) :: t) (.long x :: st) h) : J X own cc nL d ret Q pc (a0 :: some (.long x) :: t) st h := J_lload_n hd rfl rfl k
theorem J_lstore_1 {a0 : Option Value} {y z : Option Value} {t : List (Option Value)} {x : Int64} (hd : decode cc pc = .ok (.lstore_n 1, 1)) (hn : 1 + 1 < nL) (hp : lok a0 = true) (k : J X own cc nL d ret Q (pc + 1) (a0 :: some (.long x) :: none :: t) st h) : J X own cc nL d ret Q pc (a0 :: y :: z :: t) (.long x :: st) h := J_lstore_n hd rfl hn (fun j hj x hx => by have e : j = 0 := (by omega); subst e; cases hx; exact hp) k
theorem J_aload_1 {a0 : Option Value} {t : List (Option Value)} {x : Nat} (hd : decode cc pc = .ok (.aload_n 1, 1)) (k : J X own cc nL d ret Q (pc + 1) (a0 :: some (.ref x) :: t) (.ref x :: st) h) : J X own cc nL d ret Q pc (a0 :: some (.ref x) :: t) st h := J_aload_n hd rfl rfl k
theorem J_astore_1 {a0 : Option Value} {y : Option Value} {t : List (Option Value)} {x : Nat} (hd : decode cc pc = .ok (.astore_n 1, 1)) (hn : 1 < nL) (hp : lok a0 = true) (k : J X own cc nL d ret Q (pc + 1) (a0 :: some (.ref x) :: t) st h) : J X own cc nL d ret Q pc (a0 :: y :: t) (.ref x :: st) h := J_astore_n hd rfl hn (fun j hj x hx => by have e : j = 0 := (by omega); subst e; cases hx; exact hp) k
theorem J_iinc_1 {a0 : Option Value} {t : List (Option Value)} {n : Int} {x v : Int32} (hd : decode cc pc = .ok (.iinc 1 n, 3)) (he : x + Int32.ofInt n = v) (hn : 1 < nL) (hp : lok a0 = true) (k : J X own cc nL d ret Q (pc + 3) (a0 :: some (.int v) :: t) st h) : J X own cc nL d ret Q pc (a0 :: some (.int x) :: t) st h := J_iinc hd rfl he hn (fun j hj x hx => by have e : j = 0 := (by omega); subst e; cases hx; exact hp) k
theorem J_inc_1 {a0 : Option Value} {t : List (Option Value)} {j : Nat} (hd : decode cc pc = .ok (.iinc 1 1, 3)) (hn : 1 < nL) (hp : lok a0 = true) (k : J X own cc nL d ret Q (pc + 3) (a0 :: some (.int (nI (j + 1))) :: t) st h) : J X own cc nL d ret Q pc (a0 :: some (.int (nI j)) :: t) st h := J_iinc_1 hd (nI_1 j) hn hp k
theorem J_iload_2 {a0 a1 : Option Value} {t : List (Option Value)} {x : Int32} (hd : decode cc pc = .ok (.iload_n 2, 1)) (k : J X own cc nL d ret Q (pc + 1) (a0 :: a1 :: some (.int x) :: t) (.int x :: st) h) : J X own cc nL d ret Q pc (a0 :: a1 :: some (.int x) :: t) st h := J_iload_n hd rfl rfl k
theorem J_istore_2 {a0 a1 : Option Value} {y : Option Value} {t : List (Option Value)} {x : Int32} (hd : decode cc pc = .ok (.istore_n 2, 1)) (hn : 2 < nL) (hp : lok a1 = true) (k : J X own cc nL d ret Q (pc + 1) (a0 :: a1 :: some (.int x) :: t) st h) : J X own cc nL d ret Q pc (a0 :: a1 :: y :: t) (.int x :: st) h := J_istore_n hd rfl hn (fun j hj x hx => by have e : j = 1 := (by omega); subst e; cases hx; exact hp) k
theorem J_lload_2 {a0 a1 : Option Value} {t : List (Option Value)} {x : Int64} (hd : decode cc pc = .ok (.lload_n 2, 1)) (k : J X own cc nL d ret Q (pc + 1) (a0 :: a1 :: some (.long x) :: t) (.long x :: st) h) : J X own cc nL d ret Q pc (a0 :: a1 :: some (.long x) :: t) st h := J_lload_n hd rfl rfl k
theorem J_lstore_2 {a0 a1 : Option Value} {y z : Option Value} {t : List (Option Value)} {x : Int64} (hd : decode cc pc = .ok (.lstore_n 2, 1)) (hn : 2 + 1 < nL) (hp : lok a1 = true) (k : J X own cc nL d ret Q (pc + 1) (a0 :: a1 :: some (.long x) :: none :: t) st h) : J X own cc nL d ret Q pc (a0 :: a1 :: y :: z :: t) (.long x :: st) h := J_lstore_n hd rfl hn (fun j hj x hx => by have e : j = 1 := (by omega); subst e; cases hx; exact hp) k
theorem J_aload_2 {a0 a1 : Option Value} {t : List (Option Value)} {x : Nat} (hd : decode cc pc = .ok (.aload_n 2, 1)) (k : J X own cc nL d ret Q (pc + 1) (a0 :: a1 :: some (.ref x) :: t) (.ref x :: st) h) : J X own cc nL d ret Q pc (a0 :: a1 :: some (.ref x) :: t) st h := J_aload_n hd rfl rfl k
theorem J_astore_2 {a0 a1 : Option Value} {y : Option Value} {t : List (Option Value)} {x : Nat} (hd : decode cc pc = .ok (.astore_n 2, 1)) (hn : 2 < nL) (hp : lok a1 = true) (k : J X own cc nL d ret Q (pc + 1) (a0 :: a1 :: some (.ref x) :: t) st h) : J X own cc nL d ret Q pc (a0 :: a1 :: y :: t) (.ref x :: st) h := J_astore_n hd rfl hn (fun j hj x hx => by have e : j = 1 := (by omega); subst e; cases hx; exact hp) k
theorem J_iinc_2 {a0 a1 : Option Value} {t : List (Option Value)} {n : Int} {x v : Int32} (hd : decode cc pc = .ok (.iinc 2 n, 3)) (he : x + Int32.ofInt n = v) (hn : 2 < nL) (hp : lok a1 = true) (k : J X own cc nL d ret Q (pc + 3) (a0 :: a1 :: some (.int v) :: t) st h) : J X own cc nL d ret Q pc (a0 :: a1 :: some (.int x) :: t) st h := J_iinc hd rfl he hn (fun j hj x hx => by have e : j = 1 := (by omega); subst e; cases hx; exact hp) k
theorem J_inc_2 {a0 a1 : Option Value} {t : List (Option Value)} {j : Nat} (hd : decode cc pc = .ok (.iinc 2 1, 3)) (hn : 2 < nL) (hp : lok a1 = true) (k : J X own cc nL d ret Q (pc + 3) (a0 :: a1 :: some (.int (nI (j + 1))) :: t) st h) : J X own cc nL d ret Q pc (a0 :: a1 :: some (.int (nI j)) :: t) st h := J_iinc_2 hd (nI_1 j) hn hp k
theorem J_iload_3 {a0 a1 a2 : Option Value} {t : List (Option Value)} {x : Int32} (hd : decode cc pc = .ok (.iload_n 3, 1)) (k : J X own cc nL d ret Q (pc + 1) (a0 :: a1 :: a2 :: some (.int x) :: t) (.int x :: st) h) : J X own cc nL d ret Q pc (a0 :: a1 :: a2 :: some (.int x) :: t) st h := J_iload_n hd rfl rfl k
theorem J_istore_3 {a0 a1 a2 : Option Value} {y : Option Value} {t : List (Option Value)} {x : Int32} (hd : decode cc pc = .ok (.istore_n 3, 1)) (hn : 3 < nL) (hp : lok a2 = true) (k : J X own cc nL d ret Q (pc + 1) (a0 :: a1 :: a2 :: some (.int x) :: t) st h) : J X own cc nL d ret Q pc (a0 :: a1 :: a2 :: y :: t) (.int x :: st) h := J_istore_n hd rfl hn (fun j hj x hx => by have e : j = 2 := (by omega); subst e; cases hx; exact hp) k
theorem J_lload_3 {a0 a1 a2 : Option Value} {t : List (Option Value)} {x : Int64} (hd : decode cc pc = .ok (.lload_n 3, 1)) (k : J X own cc nL d ret Q (pc + 1) (a0 :: a1 :: a2 :: some (.long x) :: t) (.long x :: st) h) : J X own cc nL d ret Q pc (a0 :: a1 :: a2 :: some (.long x) :: t) st h := J_lload_n hd rfl rfl k
theorem J_lstore_3 {a0 a1 a2 : Option Value} {y z : Option Value} {t : List (Option Value)} {x : Int64} (hd : decode cc pc = .ok (.lstore_n 3, 1)) (hn : 3 + 1 < nL) (hp : lok a2 = true) (k : J X own cc nL d ret Q (pc + 1) (a0 :: a1 :: a2 :: some (.long x) :: none :: t) st h) : J X own cc nL d ret Q pc (a0 :: a1 :: a2 :: y :: z :: t) (.long x :: st) h := J_lstore_n hd rfl hn (fun j hj x hx => by have e : j = 2 := (by omega); subst e; cases hx; exact hp) k
theorem J_aload_3 {a0 a1 a2 : Option Value} {t : List (Option Value)} {x : Nat} (hd : decode cc pc = .ok (.aload_n 3, 1)) (k : J X own cc nL d ret Q (pc + 1) (a0 :: a1 :: a2 :: some (.ref x) :: t) (.ref x :: st) h) : J X own cc nL d ret Q pc (a0 :: a1 :: a2 :: some (.ref x) :: t) st h := J_aload_n hd rfl rfl k
theorem J_astore_3 {a0 a1 a2 : Option Value} {y : Option Value} {t : List (Option Value)} {x : Nat} (hd : decode cc pc = .ok (.astore_n 3, 1)) (hn : 3 < nL) (hp : lok a2 = true) (k : J X own cc nL d ret Q (pc + 1) (a0 :: a1 :: a2 :: some (.ref x) :: t) st h) : J X own cc nL d ret Q pc (a0 :: a1 :: a2 :: y :: t) (.ref x :: st) h := J_astore_n hd rfl hn (fun j hj x hx => by have e : j = 2 := (by omega); subst e; cases hx; exact hp) k
theorem J_iinc_3 {a0 a1 a2 : Option Value} {t : List (Option Value)} {n : Int} {x v : Int32} (hd : decode cc pc = .ok (.iinc 3 n, 3)) (he : x + Int32.ofInt n = v) (hn : 3 < nL) (hp : lok a2 = true) (k : J X own cc nL d ret Q (pc + 3) (a0 :: a1 :: a2 :: some (.int v) :: t) st h) : J X own cc nL d ret Q pc (a0 :: a1 :: a2 :: some (.int x) :: t) st h := J_iinc hd rfl he hn (fun j hj x hx => by have e : j = 2 := (by omega); subst e; cases hx; exact hp) k
theorem J_inc_3 {a0 a1 a2 : Option Value} {t : List (Option Value)} {j : Nat} (hd : decode cc pc = .ok (.iinc 3 1, 3)) (hn : 3 < nL) (hp : lok a2 = true) (k : J X own cc nL d ret Q (pc + 3) (a0 :: a1 :: a2 :: some (.int (nI (j + 1))) :: t) st h) : J X own cc nL d ret Q pc (a0 :: a1 :: a2 :: some (.int (nI j)) :: t) st h := J_iinc_3 hd (nI_1 j) hn hp k
theorem J_iload_4 {a0 a1 a2 a3 : Option Value} {t : List (Option Value)} {x : Int32} (hd : decode cc pc = .ok (.iload 4, 2)) (k : J X own cc nL d ret Q (pc + 2) (a0 :: a1 :: a2 :: a3 :: some (.int x) :: t) (.int x :: st) h) : J X own cc nL d ret Q pc (a0 :: a1 :: a2 :: a3 :: some (.int x) :: t) st h := J_iload hd rfl k
theorem J_istore_4 {a0 a1 a2 a3 : Option Value} {y : Option Value} {t : List (Option Value)} {x : Int32} (hd : decode cc pc = .ok (.istore 4, 2)) (hn : 4 < nL) (hp : lok a3 = true) (k : J X own cc nL d ret Q (pc + 2) (a0 :: a1 :: a2 :: a3 :: some (.int x) :: t) st h) : J X own cc nL d ret Q pc (a0 :: a1 :: a2 :: a3 :: y :: t) (.int x :: st) h := J_istore hd hn (fun j hj x hx => by have e : j = 3 := (by omega); subst e; cases hx; exact hp) k
theorem J_lload_4 {a0 a1 a2 a3 : Option Value} {t : List (Option Value)} {x : Int64} (hd : decode cc pc = .ok (.lload 4, 2)) (k : J X own cc nL d ret Q (pc + 2) (a0 :: a1 :: a2 :: a3 :: some (.long x) :: t) (.long x :: st) h) : J X own cc nL d ret Q pc (a0 :: a1 :: a2 :: a3 :: some (.long x) :: t) st h := J_lload hd rfl k
theorem J_lstore_4 {a0 a1 a2 a3 : Option Value} {y z : Option Value} {t : List (Option Value)} {x : Int64} (hd : decode cc pc = .ok (.lstore 4, 2)) (hn : 4 + 1 < nL) (hp : lok a3 = true) (k : J X own cc nL d ret Q (pc + 2) (a0 :: a1 :: a2 :: a3 :: some (.long x) :: none :: t) st h) : J X own cc nL d ret Q pc (a0 :: a1 :: a2 :: a3 :: y :: z :: t) (.long x :: st) h := J_lstore hd hn (fun j hj x hx => by have e : j = 3 := (by omega); subst e; cases hx; exact hp) k
theorem J_aload_4 {a0 a1 a2 a3 : Option Value} {t : List (Option Value)} {x : Nat} (hd : decode cc pc = .ok (.aload 4, 2)) (k : J X own cc nL d ret Q (pc + 2) (a0 :: a1 :: a2 :: a3 :: some (.ref x) :: t) (.ref x :: st) h) : J X own cc nL d ret Q pc (a0 :: a1 :: a2 :: a3 :: some (.ref x) :: t) st h := J_aload hd rfl k
theorem J_astore_4 {a0 a1 a2 a3 : Option Value} {y : Option Value} {t : List (Option Value)} {x : Nat} (hd : decode cc pc = .ok (.astore 4, 2)) (hn : 4 < nL) (hp : lok a3 = true) (k : J X own cc nL d ret Q (pc + 2) (a0 :: a1 :: a2 :: a3 :: some (.ref x) :: t) st h) : J X own cc nL d ret Q pc (a0 :: a1 :: a2 :: a3 :: y :: t) (.ref x :: st) h := J_astore hd hn (fun j hj x hx => by have e : j = 3 := (by omega); subst e; cases hx; exact hp) k
theorem J_iinc_4 {a0 a1 a2 a3 : Option Value} {t : List (Option Value)} {n : Int} {x v : Int32} (hd : decode cc pc = .ok (.iinc 4 n, 3)) (he : x + Int32.ofInt n = v) (hn : 4 < nL) (hp : lok a3 = true) (k : J X own cc nL d ret Q (pc + 3) (a0 :: a1 :: a2 :: a3 :: some (.int v) :: t) st h) : J X own cc nL d ret Q pc (a0 :: a1 :: a2 :: a3 :: some (.int x) :: t) st h := J_iinc hd rfl he hn (fun j hj x hx => by have e : j = 3 := (by omega); subst e; cases hx; exact hp) k
theorem J_inc_4 {a0 a1 a2 a3 : Option Value} {t : List (Option Value)} {j : Nat} (hd : decode cc pc = .ok (.iinc 4 1, 3)) (hn : 4 < nL) (hp : lok a3 = true) (k : J X own cc nL d ret Q (pc + 3) (a0 :: a1 :: a2 :: a3 :: some (.int (nI (j + 1))) :: t) st h) : J X own cc nL d ret Q pc (a0 :: a1 :: a2 :: a3 :: some (.int (nI j)) :: t) st h := J_iinc_4 hd (nI_1 j) hn hp k
theorem J_iload_5 {a0 a1 a2 a3 a4 : Option Value} {t : List (Option Value)} {x : Int32} (hd : decode cc pc = .ok (.iload 5, 2)) (k : J X own cc nL d ret Q (pc + 2) (a0 :: a1 :: a2 :: a3 :: a4 :: some (.int x) :: t) (.int x :: st) h) : J X own cc nL d ret Q pc (a0 :: a1 :: a2 :: a3 :: a4 :: some (.int x) :: t) st h := J_iload hd rfl k
theorem J_istore_5 {a0 a1 a2 a3 a4 : Option Value} {y : Option Value} {t : List (Option Value)} {x : Int32} (hd : decode cc pc = .ok (.istore 5, 2)) (hn : 5 < nL) (hp : lok a4 = true) (k : J X own cc nL d ret Q (pc + 2) (a0 :: a1 :: a2 :: a3 :: a4 :: some (.int x) :: t) st h) : J X own cc nL d ret Q pc (a0 :: a1 :: a2 :: a3 :: a4 :: y :: t) (.int x :: st) h := J_istore hd hn (fun j hj x hx => by have e : j = 4 := (by omega); subst e; cases hx; exact hp) k
theorem J_lload_5 {a0 a1 a2 a3 a4 : Option Value} {t : List (Option Value)} {x : Int64} (hd : decode cc pc = .ok (.lload 5, 2)) (k : J X own cc nL d ret Q (pc + 2) (a0 :: a1 :: a2 :: a3 :: a4 :: some (.long x) :: t) (.long x :: st) h) : J X own cc nL d ret Q pc (a0 :: a1 :: a2 :: a3 :: a4 :: some (.long x) :: t) st h := J_lload hd rfl k
theorem J_lstore_5 {a0 a1 a2 a3 a4 : Option Value} {y z : Option Value} {t : List (Option Value)} {x : Int64} (hd : decode cc pc = .ok (.lstore 5, 2)) (hn : 5 + 1 < nL) (hp : lok a4 = true) (k : J X own cc nL d ret Q (pc + 2) (a0 :: a1 :: a2 :: a3 :: a4 :: some (.long x) :: none :: t) st h) : J X own cc nL d ret Q pc (a0 :: a1 :: a2 :: a3 :: a4 :: y :: z :: t) (.long x :: st) h := J_lstore hd hn (fun j hj x hx => by have e : j = 4 := (by omega); subst e; cases hx; exact hp) k
theorem J_aload_5 {a0 a1 a2 a3 a4 : Option Value} {t : List (Option Value)} {x : Nat} (hd : decode cc pc = .ok (.aload 5, 2)) (k : J X own cc nL d ret Q (pc + 2) (a0 :: a1 :: a2 :: a3 :: a4 :: some (.ref x) :: t) (.ref x :: st) h) : J X own cc nL d ret Q pc (a0 :: a1 :: a2 :: a3 :: a4 :: some (.ref x) :: t) st h := J_aload hd rfl k
theorem J_astore_5 {a0 a1 a2 a3 a4 : Option Value} {y : Option Value} {t : List (Option Value)} {x : Nat} (hd : decode cc pc = .ok (.astore 5, 2)) (hn : 5 < nL) (hp : lok a4 = true) (k : J X own cc nL d ret Q (pc + 2) (a0 :: a1 :: a2 :: a3 :: a4 :: some (.ref x) :: t) st h) : J X own cc nL d ret Q pc (a0 :: a1 :: a2 :: a3 :: a4 :: y :: t) (.ref x :: st) h := J_astore hd hn (fun j hj x hx => by have e : j = 4 := (by omega); subst e; cases hx; exact hp) k
theorem J_iinc_5 {a0 a1 a2 a3 a4 : Option Value} {t : List (Option Value)} {n : Int} {x v : Int32} (hd : decode cc pc = .ok (.iinc 5 n, 3)) (he : x + Int32.ofInt n = v) (hn : 5 < nL) (hp : lok a4 = true) (k : J X own cc nL d ret Q (pc + 3) (a0 :: a1 :: a2 :: a3 :: a4 :: some (.int v) :: t) st h) : J X own cc nL d ret Q pc (a0 :: a1 :: a2 :: a3 :: a4 :: some (.int x) :: t) st h := J_iinc hd rfl he hn (fun j hj x hx => by have e : j = 4 := (by omega); subst e; cases hx; exact hp) k
theorem J_inc_5 {a0 a1 a2 a3 a4 : Option Value} {t : List (Option Value)} {j : Nat} (hd : decode cc pc = .ok (.iinc 5 1, 3)) (hn : 5 < nL) (hp : lok a4 = true) (k : J X own cc nL d ret Q (pc + 3) (a0 :: a1 :: a2 :: a3 :: a4 :: some (.int (nI (j + 1))) :: t) st h) : J X own cc nL d ret Q pc (a0 :: a1 :: a2 :: a3 :: a4 :: some (.int (nI j)) :: t) st h := J_iinc_5 hd (nI_1 j) hn hp k
theorem J_iload_6 {a0 a1 a2 a3 a4 a5 : Option Value} {t : List (Option Value)} {x : Int32} (hd : decode cc pc = .ok (.iload 6, 2)) (k : J X own cc nL d ret Q (pc + 2) (a0 :: a1 :: a2 :: a3 :: a4 :: a5 :: some (.int x) :: t) (.int x :: st) h) : J X own cc nL d ret Q pc (a0 :: a1 :: a2 :: a3 :: a4 :: a5 :: some (.int x) :: t) st h := J_iload hd rfl k
theorem J_istore_6 {a0 a1 a2 a3 a4 a5 : Option Value} {y : Option Value} {t : List (Option Value)} {x : Int32} (hd : decode cc pc = .ok (.istore 6, 2)) (hn : 6 < nL) (hp : lok a5 = true) (k : J X own cc nL d ret Q (pc + 2) (a0 :: a1 :: a2 :: a3 :: a4 :: a5 :: some (.int x) :: t) st h) : J X own cc nL d ret Q pc (a0 :: a1 :: a2 :: a3 :: a4 :: a5 :: y :: t) (.int x :: st) h := J_istore hd hn (fun j hj x hx => by have e : j = 5 := (by omega); subst e; cases hx; exact hp) k
theorem J_lload_6 {a0 a1 a2 a3 a4 a5 : Option Value} {t : List (Option Value)} {x : Int64} (hd : decode cc pc = .ok (.lload 6, 2)) (k : J X own cc nL d ret Q (pc + 2) (a0 :: a1 :: a2 :: a3 :: a4 :: a5 :: some (.long x) :: t) (.long x :: st) h) : J X own cc nL d ret Q pc (a0 :: a1 :: a2 :: a3 :: a4 :: a5 :: some (.long x) :: t) st h := J_lload hd rfl k
theorem J_lstore_6 {a0 a1 a2 a3 a4 a5 : Option Value} {y z : Option Value} {t : List (Option Value)} {x : Int64} (hd : decode cc pc = .ok (.lstore 6, 2)) (hn : 6 + 1 < nL) (hp : lok a5 = true) (k : J X own cc nL d ret Q (pc + 2) (a0 :: a1 :: a2 :: a3 :: a4 :: a5 :: some (.long x) :: none :: t) st h) : J X own cc nL d ret Q pc (a0 :: a1 :: a2 :: a3 :: a4 :: a5 :: y :: z :: t) (.long x :: st) h := J_lstore hd hn (fun j hj x hx => by have e : j = 5 := (by omega); subst e; cases hx; exact hp) k
theorem J_aload_6 {a0 a1 a2 a3 a4 a5 : Option Value} {t : List (Option Value)} {x : Nat} (hd : decode cc pc = .ok (.aload 6, 2)) (k : J X own cc nL d ret Q (pc + 2) (a0 :: a1 :: a2 :: a3 :: a4 :: a5 :: some (.ref x) :: t) (.ref x :: st) h) : J X own cc nL d ret Q pc (a0 :: a1 :: a2 :: a3 :: a4 :: a5 :: some (.ref x) :: t) st h := J_aload hd rfl k
theorem J_astore_6 {a0 a1 a2 a3 a4 a5 : Option Value} {y : Option Value} {t : List (Option Value)} {x : Nat} (hd : decode cc pc = .ok (.astore 6, 2)) (hn : 6 < nL) (hp : lok a5 = true) (k : J X own cc nL d ret Q (pc + 2) (a0 :: a1 :: a2 :: a3 :: a4 :: a5 :: some (.ref x) :: t) st h) : J X own cc nL d ret Q pc (a0 :: a1 :: a2 :: a3 :: a4 :: a5 :: y :: t) (.ref x :: st) h := J_astore hd hn (fun j hj x hx => by have e : j = 5 := (by omega); subst e; cases hx; exact hp) k
theorem J_iinc_6 {a0 a1 a2 a3 a4 a5 : Option Value} {t : List (Option Value)} {n : Int} {x v : Int32} (hd : decode cc pc = .ok (.iinc 6 n, 3)) (he : x + Int32.ofInt n = v) (hn : 6 < nL) (hp : lok a5 = true) (k : J X own cc nL d ret Q (pc + 3) (a0 :: a1 :: a2 :: a3 :: a4 :: a5 :: some (.int v) :: t) st h) : J X own cc nL d ret Q pc (a0 :: a1 :: a2 :: a3 :: a4 :: a5 :: some (.int x) :: t) st h := J_iinc hd rfl he hn (fun j hj x hx => by have e : j = 5 := (by omega); subst e; cases hx; exact hp) k
theorem J_inc_6 {a0 a1 a2 a3 a4 a5 : Option Value} {t : List (Option Value)} {j : Nat} (hd : decode cc pc = .ok (.iinc 6 1, 3)) (hn : 6 < nL) (hp : lok a5 = true) (k : J X own cc nL d ret Q (pc + 3) (a0 :: a1 :: a2 :: a3 :: a4 :: a5 :: some (.int (nI (j + 1))) :: t) st h) : J X own cc nL d ret Q pc (a0 :: a1 :: a2 :: a3 :: a4 :: a5 :: some (.int (nI j)) :: t) st h := J_iinc_6 hd (nI_1 j) hn hp k
theorem J_iload_7 {a0 a1 a2 a3 a4 a5 a6 : Option Value} {t : List (Option Value)} {x : Int32} (hd : decode cc pc = .ok (.iload 7, 2)) (k : J X own cc nL d ret Q (pc + 2) (a0 :: a1 :: a2 :: a3 :: a4 :: a5 :: a6 :: some (.int x) :: t) (.int x :: st) h) : J X own cc nL d ret Q pc (a0 :: a1 :: a2 :: a3 :: a4 :: a5 :: a6 :: some (.int x) :: t) st h := J_iload hd rfl k
theorem J_istore_7 {a0 a1 a2 a3 a4 a5 a6 : Option Value} {y : Option Value} {t : List (Option Value)} {x : Int32} (hd : decode cc pc = .ok (.istore 7, 2)) (hn : 7 < nL) (hp : lok a6 = true) (k : J X own cc nL d ret Q (pc + 2) (a0 :: a1 :: a2 :: a3 :: a4 :: a5 :: a6 :: some (.int x) :: t) st h) : J X own cc nL d ret Q pc (a0 :: a1 :: a2 :: a3 :: a4 :: a5 :: a6 :: y :: t) (.int x :: st) h := J_istore hd hn (fun j hj x hx => by have e : j = 6 := (by omega); subst e; cases hx; exact hp) k
theorem J_lload_7 {a0 a1 a2 a3 a4 a5 a6 : Option Value} {t : List (Option Value)} {x : Int64} (hd : decode cc pc = .ok (.lload 7, 2)) (k : J X own cc nL d ret Q (pc + 2) (a0 :: a1 :: a2 :: a3 :: a4 :: a5 :: a6 :: some (.long x) :: t) (.long x :: st) h) : J X own cc nL d ret Q pc (a0 :: a1 :: a2 :: a3 :: a4 :: a5 :: a6 :: some (.long x) :: t) st h := J_lload hd rfl k
theorem J_lstore_7 {a0 a1 a2 a3 a4 a5 a6 : Option Value} {y z : Option Value} {t : List (Option Value)} {x : Int64} (hd : decode cc pc = .ok (.lstore 7, 2)) (hn : 7 + 1 < nL) (hp : lok a6 = true) (k : J X own cc nL d ret Q (pc + 2) (a0 :: a1 :: a2 :: a3 :: a4 :: a5 :: a6 :: some (.long x) :: none :: t) st h) : J X own cc nL d ret Q pc (a0 :: a1 :: a2 :: a3 :: a4 :: a5 :: a6 :: y :: z :: t) (.long x :: st) h := J_lstore hd hn (fun j hj x hx => by have e : j = 6 := (by omega); subst e; cases hx; exact hp) k
theorem J_aload_7 {a0 a1 a2 a3 a4 a5 a6 : Option Value} {t : List (Option Value)} {x : Nat} (hd : decode cc pc = .ok (.aload 7, 2)) (k : J X own cc nL d ret Q (pc + 2) (a0 :: a1 :: a2 :: a3 :: a4 :: a5 :: a6 :: some (.ref x) :: t) (.ref x :: st) h) : J X own cc nL d ret Q pc (a0 :: a1 :: a2 :: a3 :: a4 :: a5 :: a6 :: some (.ref x) :: t) st h := J_aload hd rfl k
theorem J_astore_7 {a0 a1 a2 a3 a4 a5 a6 : Option Value} {y : Option Value} {t : List (Option Value)} {x : Nat} (hd : decode cc pc = .ok (.astore 7, 2)) (hn : 7 < nL) (hp : lok a6 = true) (k : J X own cc nL d ret Q (pc + 2) (a0 :: a1 :: a2 :: a3 :: a4 :: a5 :: a6 :: some (.ref x) :: t) st h) : J X own cc nL d ret Q pc (a0 :: a1 :: a2 :: a3 :: a4 :: a5 :: a6 :: y :: t) (.ref x :: st) h := J_astore hd hn (fun j hj x hx => by have e : j = 6 := (by omega); subst e; cases hx; exact hp) k
theorem J_iinc_7 {a0 a1 a2 a3 a4 a5 a6 : Option Value} {t : List (Option Value)} {n : Int} {x v : Int32} (hd : decode cc pc = .ok (.iinc 7 n, 3)) (he : x + Int32.ofInt n = v) (hn : 7 < nL) (hp : lok a6 = true) (k : J X own cc nL d ret Q (pc + 3) (a0 :: a1 :: a2 :: a3 :: a4 :: a5 :: a6 :: some (.int v) :: t) st h) : J X own cc nL d ret Q pc (a0 :: a1 :: a2 :: a3 :: a4 :: a5 :: a6 :: some (.int x) :: t) st h := J_iinc hd rfl he hn (fun j hj x hx => by have e : j = 6 := (by omega); subst e; cases hx; exact hp) k
theorem J_inc_7 {a0 a1 a2 a3 a4 a5 a6 : Option Value} {t : List (Option Value)} {j : Nat} (hd : decode cc pc = .ok (.iinc 7 1, 3)) (hn : 7 < nL) (hp : lok a6 = true) (k : J X own cc nL d ret Q (pc + 3) (a0 :: a1 :: a2 :: a3 :: a4 :: a5 :: a6 :: some (.int (nI (j + 1))) :: t) st h) : J X own cc nL d ret Q pc (a0 :: a1 :: a2 :: a3 :: a4 :: a5 :: a6 :: some (.int (nI j)) :: t) st h := J_iinc_7 hd (nI_1 j) hn hp k
theorem J_iload_8 {a0 a1 a2 a3 a4 a5 a6 a7 : Option Value} {t : List (Option Value)} {x : Int32} (hd : decode cc pc = .ok (.iload 8, 2)) (k : J X own cc nL d ret Q (pc + 2) (a0 :: a1 :: a2 :: a3 :: a4 :: a5 :: a6 :: a7 :: some (.int x) :: t) (.int x :: st) h) : J X own cc nL d ret Q pc (a0 :: a1 :: a2 :: a3 :: a4 :: a5 :: a6 :: a7 :: some (.int x) :: t) st h := J_iload hd rfl k
theorem J_istore_8 {a0 a1 a2 a3 a4 a5 a6 a7 : Option Value} {y : Option Value} {t : List (Option Value)} {x : Int32} (hd : decode cc pc = .ok (.istore 8, 2)) (hn : 8 < nL) (hp : lok a7 = true) (k : J X own cc nL d ret Q (pc + 2) (a0 :: a1 :: a2 :: a3 :: a4 :: a5 :: a6 :: a7 :: some (.int x) :: t) st h) : J X own cc nL d ret Q pc (a0 :: a1 :: a2 :: a3 :: a4 :: a5 :: a6 :: a7 :: y :: t) (.int x :: st) h := J_istore hd hn (fun j hj x hx => by have e : j = 7 := (by omega); subst e; cases hx; exact hp) k
theorem J_lload_8 {a0 a1 a2 a3 a4 a5 a6 a7 : Option Value} {t : List (Option Value)} {x : Int64} (hd : decode cc pc = .ok (.lload 8, 2)) (k : J X own cc nL d ret Q (pc + 2) (a0 :: a1 :: a2 :: a3 :: a4 :: a5 :: a6 :: a7 :: some (.long x) :: t) (.long x :: st) h) : J X own cc nL d ret Q pc (a0 :: a1 :: a2 :: a3 :: a4 :: a5 :: a6 :: a7 :: some (.long x) :: t) st h := J_lload hd rfl k
theorem J_lstore_8 {a0 a1 a2 a3 a4 a5 a6 a7 : Option Value} {y z : Option Value} {t : List (Option Value)} {x : Int64} (hd : decode cc pc = .ok (.lstore 8, 2)) (hn : 8 + 1 < nL) (hp : lok a7 = true) (k : J X own cc nL d ret Q (pc + 2) (a0 :: a1 :: a2 :: a3 :: a4 :: a5 :: a6 :: a7 :: some (.long x) :: none :: t) st h) : J X own cc nL d ret Q pc (a0 :: a1 :: a2 :: a3 :: a4 :: a5 :: a6 :: a7 :: y :: z :: t) (.long x :: st) h := J_lstore hd hn (fun j hj x hx => by have e : j = 7 := (by omega); subst e; cases hx; exact hp) k
theorem J_aload_8 {a0 a1 a2 a3 a4 a5 a6 a7 : Option Value} {t : List (Option Value)} {x : Nat} (hd : decode cc pc = .ok (.aload 8, 2)) (k : J X own cc nL d ret Q (pc + 2) (a0 :: a1 :: a2 :: a3 :: a4 :: a5 :: a6 :: a7 :: some (.ref x) :: t) (.ref x :: st) h) : J X own cc nL d ret Q pc (a0 :: a1 :: a2 :: a3 :: a4 :: a5 :: a6 :: a7 :: some (.ref x) :: t) st h := J_aload hd rfl k
theorem J_astore_8 {a0 a1 a2 a3 a4 a5 a6 a7 : Option Value} {y : Option Value} {t : List (Option Value)} {x : Nat} (hd : decode cc pc = .ok (.astore 8, 2)) (hn : 8 < nL) (hp : lok a7 = true) (k : J X own cc nL d ret Q (pc + 2) (a0 :: a1 :: a2 :: a3 :: a4 :: a5 :: a6 :: a7 :: some (.ref x) :: t) st h) : J X own cc nL d ret Q pc (a0 :: a1 :: a2 :: a3 :: a4 :: a5 :: a6 :: a7 :: y :: t) (.ref x :: st) h := J_astore hd hn (fun j hj x hx => by have e : j = 7 := (by omega); subst e; cases hx; exact hp) k
theorem J_iinc_8 {a0 a1 a2 a3 a4 a5 a6 a7 : Option Value} {t : List (Option Value)} {n : Int} {x v : Int32} (hd : decode cc pc = .ok (.iinc 8 n, 3)) (he : x + Int32.ofInt n = v) (hn : 8 < nL) (hp : lok a7 = true) (k : J X own cc nL d ret Q (pc + 3) (a0 :: a1 :: a2 :: a3 :: a4 :: a5 :: a6 :: a7 :: some (.int v) :: t) st h) : J X own cc nL d ret Q pc (a0 :: a1 :: a2 :: a3 :: a4 :: a5 :: a6 :: a7 :: some (.int x) :: t) st h := J_iinc hd rfl he hn (fun j hj x hx => by have e : j = 7 := (by omega); subst e; cases hx; exact hp) k
theorem J_inc_8 {a0 a1 a2 a3 a4 a5 a6 a7 : Option Value} {t : List (Option Value)} {j : Nat} (hd : decode cc pc = .ok (.iinc 8 1, 3)) (hn : 8 < nL) (hp : lok a7 = true) (k : J X own cc nL d ret Q (pc + 3) (a0 :: a1 :: a2 :: a3 :: a4 :: a5 :: a6 :: a7 :: some (.int (nI (j + 1))) :: t) st h) : J X own cc nL d ret Q pc (a0 :: a1 :: a2 :: a3 :: a4 :: a5 :: a6 :: a7 :: some (.int (nI j)) :: t) st h := J_iinc_8 hd (nI_1 j) hn hp k
theorem J_iload_9 {a0 a1 a2 a3 a4 a5 a6 a7 a8 : Option Value} {t : List (Option Value)} {x : Int32} (hd : decode cc pc = .ok (.iload 9, 2)) (k : J X own cc nL d ret Q (pc + 2) (a0 :: a1 :: a2 :: a3 :: a4 :: a5 :: a6 :: a7 :: a8 :: some (.int x) :: t) (.int x :: st) h) : J X own cc nL d ret Q pc (a0 :: a1 :: a2 :: a3 :: a4 :: a5 :: a6 :: a7 :: a8 :: some (.int x) :: t) st h := J_iload hd rfl k
theorem J_istore_9 {a0 a1 a2 a3 a4 a5 a6 a7 a8 : Option Value} {y : Option Value} {t : List (Option Value)} {x : Int32} (hd : decode cc pc = .ok (.istore 9, 2)) (hn : 9 < nL) (hp : lok a8 = true) (k : J X own cc nL d ret Q (pc + 2) (a0 :: a1 :: a2 :: a3 :: a4 :: a5 :: a6 :: a7 :: a8 :: some (.int x) :: t) st h) : J X own cc nL d ret Q pc (a0 :: a1 :: a2 :: a3 :: a4 :: a5 :: a6 :: a7 :: a8 :: y :: t) (.int x :: st) h := J_istore hd hn (fun j hj x hx => by have e : j = 8 := (by omega); subst e; cases hx; exact hp) k
theorem J_lload_9 {a0 a1 a2 a3 a4 a5 a6 a7 a8 : Option Value} {t : List (Option Value)} {x : Int64} (hd : decode cc pc = .ok (.lload 9, 2)) (k : J X own cc nL d ret Q (pc + 2) (a0 :: a1 :: a2 :: a3 :: a4 :: a5 :: a6 :: a7 :: a8 :: some (.long x) :: t) (.long x :: st) h) : J X own cc nL d ret Q pc (a0 :: a1 :: a2 :: a3 :: a4 :: a5 :: a6 :: a7 :: a8 :: some (.long x) :: t) st h := J_lload hd rfl k
theorem J_lstore_9 {a0 a1 a2 a3 a4 a5 a6 a7 a8 : Option Value} {y z : Option Value} {t : List (Option Value)} {x : Int64} (hd : decode cc pc = .ok (.lstore 9, 2)) (hn : 9 + 1 < nL) (hp : lok a8 = true) (k : J X own cc nL d ret Q (pc + 2) (a0 :: a1 :: a2 :: a3 :: a4 :: a5 :: a6 :: a7 :: a8 :: some (.long x) :: none :: t) st h) : J X own cc nL d ret Q pc (a0 :: a1 :: a2 :: a3 :: a4 :: a5 :: a6 :: a7 :: a8 :: y :: z :: t) (.long x :: st) h := J_lstore hd hn (fun j hj x hx => by have e : j = 8 := (by omega); subst e; cases hx; exact hp) k
theorem J_aload_9 {a0 a1 a2 a3 a4 a5 a6 a7 a8 : Option Value} {t : List (Option Value)} {x : Nat} (hd : decode cc pc = .ok (.aload 9, 2)) (k : J X own cc nL d ret Q (pc + 2) (a0 :: a1 :: a2 :: a3 :: a4 :: a5 :: a6 :: a7 :: a8 :: some (.ref x) :: t) (.ref x :: st) h) : J X own cc nL d ret Q pc (a0 :: a1 :: a2 :: a3 :: a4 :: a5 :: a6 :: a7 :: a8 :: some (.ref x) :: t) st h := J_aload hd rfl k
theorem J_astore_9 {a0 a1 a2 a3 a4 a5 a6 a7 a8 : Option Value} {y : Option Value} {t : List (Option Value)} {x : Nat} (hd : decode cc pc = .ok (.astore 9, 2)) (hn : 9 < nL) (hp : lok a8 = true) (k : J X own cc nL d ret Q (pc + 2) (a0 :: a1 :: a2 :: a3 :: a4 :: a5 :: a6 :: a7 :: a8 :: some (.ref x) :: t) st h) : J X own cc nL d ret Q pc (a0 :: a1 :: a2 :: a3 :: a4 :: a5 :: a6 :: a7 :: a8 :: y :: t) (.ref x :: st) h := J_astore hd hn (fun j hj x hx => by have e : j = 8 := (by omega); subst e; cases hx; exact hp) k
theorem J_iinc_9 {a0 a1 a2 a3 a4 a5 a6 a7 a8 : Option Value} {t : List (Option Value)} {n : Int} {x v : Int32} (hd : decode cc pc = .ok (.iinc 9 n, 3)) (he : x + Int32.ofInt n = v) (hn : 9 < nL) (hp : lok a8 = true) (k : J X own cc nL d ret Q (pc + 3) (a0 :: a1 :: a2 :: a3 :: a4 :: a5 :: a6 :: a7 :: a8 :: some (.int v) :: t) st h) : J X own cc nL d ret Q pc (a0 :: a1 :: a2 :: a3 :: a4 :: a5 :: a6 :: a7 :: a8 :: some (.int x) :: t) st h := J_iinc hd rfl he hn (fun j hj x hx => by have e : j = 8 := (by omega); subst e; cases hx; exact hp) k
theorem J_inc_9 {a0 a1 a2 a3 a4 a5 a6 a7 a8 : Option Value} {t : List (Option Value)} {j : Nat} (hd : decode cc pc = .ok (.iinc 9 1, 3)) (hn : 9 < nL) (hp : lok a8 = true) (k : J X own cc nL d ret Q (pc + 3) (a0 :: a1 :: a2 :: a3 :: a4 :: a5 :: a6 :: a7 :: a8 :: some (.int (nI (j + 1))) :: t) st h) : J X own cc nL d ret Q pc (a0 :: a1 :: a2 :: a3 :: a4 :: a5 :: a6 :: a7 :: a8 :: some (.int (nI j)) :: t) st h := J_iinc_9 hd (nI_1 j) hn hp k
theorem J_iload_10 {a0 a1 a2 a3 a4 a5 a6 a7 a8 a9 : Option Value} {t : List (Option Value)} {x : Int32} (hd : decode cc pc = .ok (.iload 10, 2)) (k : J X own cc nL d ret Q (pc + 2) (a0 :: a1 :: a2 :: a3 :: a4 :: a5 :: a6 :: a7 :: a8 :: a9 :: some (.int x) :: t) (.int x :: st) h) : J X own cc nL d ret Q pc (a0 :: a1 :: a2 :: a3 :: a4 :: a5 :: a6 :: a7 :: a8 :: a9 :: some (.int x) :: t) st h := J_iload hd rfl k
theorem J_istore_10 {a0 a1 a2 a3 a4 a5 a6 a7 a8 a9 : Option Value} {y : Option Value} {t : List (Option Value)} {x : Int32} (hd : decode cc pc = .ok (.istore 10, 2)) (hn : 10 < nL) (hp : lok a9 = true) (k : J X own cc nL d ret Q (pc + 2) (a0 :: a1 :: a2 :: a3 :: a4 :: a5 :: a6 :: a7 :: a8 :: a9 :: some (.int x) :: t) st h) : J X own cc nL d ret Q pc (a0 :: a1 :: a2 :: a3 :: a4 :: a5 :: a6 :: a7 :: a8 :: a9 :: y :: t) (.int x :: st) h := J_istore hd hn (fun j hj x hx => by have e : j = 9 := (by omega); subst e; cases hx; exact hp) k
theorem J_lload_10 {a0 a1 a2 a3 a4 a5 a6 a7 a8 a9 : Option Value} {t : List (Option Value)} {x : Int64} (hd : decode cc pc = .ok (.lload 10, 2)) (k : J X own cc nL d ret Q (pc + 2) (a0 :: a1 :: a2 :: a3 :: a4 :: a5 :: a6 :: a7 :: a8 :: a9 :: some (.long x) :: t) (.long x :: st) h) : J X own cc nL d ret Q pc (a0 :: a1 :: a2 :: a3 :: a4 :: a5 :: a6 :: a7 :: a8 :: a9 :: some (.long x) :: t) st h := J_lload hd rfl k
theorem J_lstore_10 {a0 a1 a2 a3 a4 a5 a6 a7 a8 a9 : Option Value} {y z : Option Value} {t : List (Option Value)} {x : Int64} (hd : decode cc pc = .ok (.lstore 10, 2)) (hn : 10 + 1 < nL) (hp : lok a9 = true) (k : J X own cc nL d ret Q (pc + 2) (a0 :: a1 :: a2 :: a3 :: a4 :: a5 :: a6 :: a7 :: a8 :: a9 :: some (.long x) :: none :: t) st h) : J X own cc nL d ret Q pc (a0 :: a1 :: a2 :: a3 :: a4 :: a5 :: a6 :: a7 :: a8 :: a9 :: y :: z :: t) (.long x :: st) h := J_lstore hd hn (fun j hj x hx => by have e : j = 9 := (by omega); subst e; cases hx; exact hp) k
theorem J_aload_10 {a0 a1 a2 a3 a4 a5 a6 a7 a8 a9 : Option Value} {t : List (Option Value)} {x : Nat} (hd : decode cc pc = .ok (.aload 10, 2)) (k : J X own cc nL d ret Q (pc + 2) (a0 :: a1 :: a2 :: a3 :: a4 :: a5 :: a6 :: a7 :: a8 :: a9 :: some (.ref x) :: t) (.ref x :: st) h) : J X own cc nL d ret Q pc (a0 :: a1 :: a2 :: a3 :: a4 :: a5 :: a6 :: a7 :: a8 :: a9 :: some (.ref x) :: t) st h := J_aload hd rfl k
theorem J_astore_10 {a0 a1 a2 a3 a4 a5 a6 a7 a8 a9 : Option Value} {y : Option Value} {t : List (Option Value)} {x : Nat} (hd : decode cc pc = .ok (.astore 10, 2)) (hn : 10 < nL) (hp : lok a9 = true) (k : J X own cc nL d ret Q (pc + 2) (a0 :: a1 :: a2 :: a3 :: a4 :: a5 :: a6 :: a7 :: a8 :: a9 :: some (.ref x) :: t) st h) : J X own cc nL d ret Q pc (a0 :: a1 :: a2 :: a3 :: a4 :: a5 :: a6 :: a7 :: a8 :: a9 :: y :: t) (.ref x :: st) h := J_astore hd hn (fun j hj x hx => by have e : j = 9 := (by omega); subst e; cases hx; exact hp) k
theorem J_iinc_10 {a0 a1 a2 a3 a4 a5 a6 a7 a8 a9 : Option Value} {t : List (Option Value)} {n : Int} {x v : Int32} (hd : decode cc pc = .ok (.iinc 10 n, 3)) (he : x + Int32.ofInt n = v) (hn : 10 < nL) (hp : lok a9 = true) (k : J X own cc nL d ret Q (pc + 3) (a0 :: a1 :: a2 :: a3 :: a4 :: a5 :: a6 :: a7 :: a8 :: a9 :: some (.int v) :: t) st h) : J X own cc nL d ret Q pc (a0 :: a1 :: a2 :: a3 :: a4 :: a5 :: a6 :: a7 :: a8 :: a9 :: some (.int x) :: t) st h := J_iinc hd rfl he hn (fun j hj x hx => by have e : j = 9 := (by omega); subst e; cases hx; exact hp) k
theorem J_inc_10 {a0 a1 a2 a3 a4 a5 a6 a7 a8 a9 : Option Value} {t : List (Option Value)} {j : Nat} (hd : decode cc pc = .ok (.iinc 10 1, 3)) (hn : 10 < nL) (hp : lok a9 = true) (k : J X own cc nL d ret Q (pc + 3) (a0 :: a1 :: a2 :: a3 :: a4 :: a5 :: a6 :: a7 :: a8 :: a9 :: some (.int (nI (j + 1))) :: t) st h) : J X own cc nL d ret Q pc (a0 :: a1 :: a2 :: a3 :: a4 :: a5 :: a6 :: a7 :: a8 :: a9 :: some (.int (nI j)) :: t) st h := J_iinc_10 hd (nI_1 j) hn hp k
theorem J_iload_11 {a0 a1 a2 a3 a4 a5 a6 a7 a8 a9 a10 : Option Value} {t : List (Option Value)} {x : Int32} (hd : decode cc pc = .ok (.iload 11, 2)) (k : J X own cc nL d ret Q (pc + 2) (a0 :: a1 :: a2 :: a3 :: a4 :: a5 :: a6 :: a7 :: a8 :: a9 :: a10 :: some (.int x) :: t) (.int x :: st) h) : J X own cc nL d ret Q pc (a0 :: a1 :: a2 :: a3 :: a4 :: a5 :: a6 :: a7 :: a8 :: a9 :: a10 :: some (.int x) :: t) st h := J_iload hd rfl k
theorem J_istore_11 {a0 a1 a2 a3 a4 a5 a6 a7 a8 a9 a10 : Option Value} {y : Option Value} {t : List (Option Value)} {x : Int32} (hd : decode cc pc = .ok (.istore 11, 2)) (hn : 11 < nL) (hp : lok a10 = true) (k : J X own cc nL d ret Q (pc + 2) (a0 :: a1 :: a2 :: a3 :: a4 :: a5 :: a6 :: a7 :: a8 :: a9 :: a10 :: some (.int x) :: t) st h) : J X own cc nL d ret Q pc (a0 :: a1 :: a2 :: a3 :: a4 :: a5 :: a6 :: a7 :: a8 :: a9 :: a10 :: y :: t) (.int x :: st) h := J_istore hd hn (fun j hj x hx => by have e : j = 10 := (by omega); subst e; cases hx; exact hp) k
theorem J_lload_11 {a0 a1 a2 a3 a4 a5 a6 a7 a8 a9 a10 : Option Value} {t : List (Option Value)} {x : Int64} (hd : decode cc pc = .ok (.lload 11, 2)) (k : J X own cc nL d ret Q (pc + 2) (a0 :: a1 :: a2 :: a3 :: a4 :: a5 :: a6 :: a7 :: a8 :: a9 :: a10 :: some (.long x) :: t) (.long x :: st) h) : J X own cc nL d ret Q pc (a0 :: a1 :: a2 :: a3 :: a4 :: a5 :: a6 :: a7 :: a8 :: a9 :: a10 :: some (.long x) :: t) st h := J_lload hd rfl k
theorem J_lstore_11 {a0 a1 a2 a3 a4 a5 a6 a7 a8 a9 a10 : Option Value} {y z : Option Value} {t : List (Option Value)} {x : Int64} (hd : decode cc pc = .ok (.lstore 11, 2)) (hn : 11 + 1 < nL) (hp : lok a10 = true) (k : J X own cc nL d ret Q (pc + 2) (a0 :: a1 :: a2 :: a3 :: a4 :: a5 :: a6 :: a7 :: a8 :: a9 :: a10 :: some (.long x) :: none :: t) st h) : J X own cc nL d ret Q pc (a0 :: a1 :: a2 :: a3 :: a4 :: a5 :: a6 :: a7 :: a8 :: a9 :: a10 :: y :: z :: t) (.long x :: st) h := J_lstore hd hn (fun j hj x hx => by have e : j = 10 := (by omega); subst e; cases hx; exact hp) k
theorem J_aload_11 {a0 a1 a2 a3 a4 a5 a6 a7 a8 a9 a10 : Option Value} {t : List (Option Value)} {x : Nat} (hd : decode cc pc = .ok (.aload 11, 2)) (k : J X own cc nL d ret Q (pc + 2) (a0 :: a1 :: a2 :: a3 :: a4 :: a5 :: a6 :: a7 :: a8 :: a9 :: a10 :: some (.ref x) :: t) (.ref x :: st) h) : J X own cc nL d ret Q pc (a0 :: a1 :: a2 :: a3 :: a4 :: a5 :: a6 :: a7 :: a8 :: a9 :: a10 :: some (.ref x) :: t) st h := J_aload hd rfl k
theorem J_astore_11 {a0 a1 a2 a3 a4 a5 a6 a7 a8 a9 a10 : Option Value} {y : Option Value} {t : List (Option Value)} {x : Nat} (hd : decode cc pc = .ok (.astore 11, 2)) (hn : 11 < nL) (hp : lok a10 = true) (k : J X own cc nL d ret Q (pc + 2) (a0 :: a1 :: a2 :: a3 :: a4 :: a5 :: a6 :: a7 :: a8 :: a9 :: a10 :: some (.ref x) :: t) st h) : J X own cc nL d ret Q pc (a0 :: a1 :: a2 :: a3 :: a4 :: a5 :: a6 :: a7 :: a8 :: a9 :: a10 :: y :: t) (.ref x :: st) h := J_astore hd hn (fun j hj x hx => by have e : j = 10 := (by omega); subst e; cases hx; exact hp) k
theorem J_iinc_11 {a0 a1 a2 a3 a4 a5 a6 a7 a8 a9 a10 : Option Value} {t : List (Option Value)} {n : Int} {x v : Int32} (hd : decode cc pc = .ok (.iinc 11 n, 3)) (he : x + Int32.ofInt n = v) (hn : 11 < nL) (hp : lok a10 = true) (k : J X own cc nL d ret Q (pc + 3) (a0 :: a1 :: a2 :: a3 :: a4 :: a5 :: a6 :: a7 :: a8 :: a9 :: a10 :: some (.int v) :: t) st h) : J X own cc nL d ret Q pc (a0 :: a1 :: a2 :: a3 :: a4 :: a5 :: a6 :: a7 :: a8 :: a9 :: a10 :: some (.int x) :: t) st h := J_iinc hd rfl he hn (fun j hj x hx => by have e : j = 10 := (by omega); subst e; cases hx; exact hp) k
theorem J_inc_11 {a0 a1 a2 a3 a4 a5 a6 a7 a8 a9 a10 : Option Value} {t : List (Option Value)} {j : Nat} (hd : decode cc pc = .ok (.iinc 11 1, 3)) (hn : 11 < nL) (hp : lok a10 = true) (k : J X own cc nL d ret Q (pc + 3) (a0 :: a1 :: a2 :: a3 :: a4 :: a5 :: a6 :: a7 :: a8 :: a9 :: a10 :: some (.int (nI (j + 1))) :: t) st h) : J X own cc nL d ret Q pc (a0 :: a1 :: a2 :: a3 :: a4 :: a5 :: a6 :: a7 :: a8 :: a9 :: a10 :: some (.int (nI j)) :: t) st h := J_iinc_11 hd (nI_1 j) hn hp k
end JL
