/-! A LOGIC OVER A GROWING HEAP: cells are made one behind another, from the address of cell 0 on -/
/-- which cell is made when -/
def gp (i : Nat) : Nat := if 23 ≤ i ∧ i < 33 then i + 5 else if 33 ≤ i ∧ i < 38 then i - 10 else i
def gs (a : Nat) : Nat := if 23 ≤ a ∧ a < 28 then a + 10 else if 28 ≤ a ∧ a < 38 then a - 5 else a
theorem gs_gp (i : Nat) : gs (gp i) = i := by
  unfold gp gs
  split
  · rw [if_neg (by omega), if_pos (by omega)]; omega
  · split
    · rw [if_pos (by omega)]; omega
    · rw [if_neg (by omega), if_neg (by omega)]
theorem gp_gs (a : Nat) : gp (gs a) = a := by
  unfold gp gs
  split
  · rw [if_neg (by omega), if_pos (by omega)]; omega
  · split
    · rw [if_pos (by omega)]; omega
    · rw [if_neg (by omega), if_neg (by omega)]
def gAd (X : Cx) : Prop := ∀ i, i < 71 → jad X i = jad X 0 + gp i
def gA (X : Cx) : Nat → Prop := fun q => jad X 0 ≤ q
def wG (X : Cx) (n : Nat) (h : HF) : va_W := (List.range n).map (fun a => (jad X 0 + a, encE X (h (gs a))))
theorem wG_get {X : Cx} {n : Nat} {h : HF} {a : Nat} (ha : a < n) : (wG X n h)[a]? = some (jad X 0 + a, encE X (h (gs a))) := by
  simp only [wG, List.getElem?_map, List.getElem?_range ha, Option.map_some]
theorem wG_none {X : Cx} {n : Nat} {h : HF} {a : Nat} (ha : ¬ a < n) : (wG X n h)[a]? = none := by
  rw [List.getElem?_eq_none_iff]
  simp only [wG, List.length_map, List.length_range]
  omega
theorem wG_at {X : Cx} {n : Nat} {h : HF} {i : Nat} (ad : gAd X) (hi : i < 71) (hn : gp i < n) : (wG X n h)[gp i]? = some (jad X i, encE X (h i)) := by
  rw [wG_get hn, gs_gp, ad i hi]
theorem wG_set {X : Cx} {n : Nat} {h : HF} {i : Nat} {c : AE} (ad : gAd X) (hi : i < 71) (hn : gp i < n) : (wG X n h).set (gp i) (jad X i, encE X c) = wG X n (hu h i c) := by
  apply List.ext_getElem?
  intro k
  by_cases hk : k < n
  · rw [wG_get hk]
    by_cases e : k = gp i
    · subst e
      rw [List.getElem?_set_self (by simp only [wG, List.length_map, List.length_range]; exact hk), gs_gp, hu_same, ad i hi]
    · rw [List.getElem?_set_ne (Ne.symm e), wG_get hk, hu_ne (fun z => e (by rw [← z, gp_gs]))]
  · rw [wG_none hk, List.getElem?_eq_none_iff]
    simp only [wG, List.length_set, List.length_map, List.length_range]
    omega
theorem wG_push {X : Cx} {n : Nat} {h : HF} {c : AE} : wG X n h ++ [(jad X 0 + n, encE X c)] = wG X (n + 1) (hu h (gs n) c) := by
  unfold wG
  rw [List.range_succ, List.map_append]
  congr 1
  · refine List.map_congr_left (fun a ha => ?_)
    have := List.mem_range.mp ha
    rw [hu_ne (fun z => by have := congrArg gp z; rw [gp_gs, gp_gs] at this; omega)]
  · show _ = [(jad X 0 + n, encE X (hu h (gs n) c (gs n)))]
    rw [hu_same]
theorem wG_D {X : Cx} {n : Nat} {h : HF} : va_D (gA X) (wG X n h) := by
  refine ⟨fun i j p q h1 h2 hpq => ?_, fun k q hk => ?_⟩
  · by_cases a : i < n
    · by_cases b : j < n
      · rw [wG_get a] at h1
        rw [wG_get b] at h2
        cases h1
        cases h2
        have hpq : jad X 0 + i = jad X 0 + j := hpq
        omega
      · rw [wG_none b] at h2; cases h2
    · rw [wG_none a] at h1; cases h1
  · by_cases a : k < n
    · rw [wG_get a] at hk
      cases hk
      exact Nat.le_add_right _ _
    · rw [wG_none a] at hk; cases hk
def gst (X : Cx) (U : State) (H : Heap) : Prop := va_Z RX6 "HIGHEST_SETTING" "[I" (.ref (jad X 1000)) (gA X) U H ∧ va_T .int (jad X 1000) 3 (fun j => .int (jt0 j)) (gA X) U H
theorem gst.moved {X : Cx} {u U : State} {H : Heap} (hvm : u.vm.Alike U.vm) (h : gst X u H) : gst X U H := ⟨h.1.moved hvm, h.2.moved hvm⟩
theorem gst.kept {X : Cx} {U : State} {H H1 : Heap} (h : gst X U H) (hq : ∀ a : Nat, a < H.size → ¬ gA X a → H1[a]? = H[a]?) : gst X U H1 := ⟨h.1.kept hq, h.2.kept hq⟩
theorem gnest.warm {s U : State} (hW : s.WarmedH U.vm) (h : gnest s) : gnest U := ⟨va_Nw.warmM hW h.1, va_Nw.warmM hW h.2.1, va_Nw.warmM hW h.2.2.1, va_AO.moved hW.alike h.2.2.2.1, va_AO.moved hW.alike h.2.2.2.2.1, va_AO.moved hW.alike h.2.2.2.2.2.1, va_AO.moved hW.alike h.2.2.2.2.2.2⟩
abbrev gRT : Type := Program → Launch → Env → Room → State → MethodId → Array Value → List Frame → Method → Code → Nat → Nat → (State → Prop) → Prop
def gCtx (X : Cx) (ini : Prop) (own : String) (cc : ByteArray) (nL d : Nat) (p : Program) (R : Room) (s : State) (m : MethodId) (args : Array Value) (meth : Method) (c : Code) (KC KS n0 : Nat) : Prop :=
  p.tables.exec = Jvm.exec ∧ c.code = cc ∧ c.maxLocals = nL ∧ s.vm.findClass own = some m.cls ∧ (∀ w ∈ jtb, w.before args s = true) ∧ va_K (jD X) jcl (jty X) s ∧ gAd X ∧ gst X s s.heap ∧ (d ≤ R.frames ∧ 35 * d ≤ R.locals) ∧ gnest s ∧ s.heap.size = jad X 0 + n0 ∧ (ini → meth.name = "<init>") ∧ KC ≤ R.cells ∧ KS ≤ R.slots
/-- n0 cells were there at the method's entry; kc are made since -/
def G (X : Cx) (ini : Prop) (own : String) (cc : ByteArray) (nL d : Nat) (Rt : gRT) (KC KS n0 : Nat) (pc : Nat) (ls : List (Option Value)) (st : List Value) (h : HF) (kc ks : Nat) : Prop :=
  ∀ (p : Program) (l : Launch) (e : Env) (R : Room) (s : State) (m : MethodId) (args : Array Value) (below : List Frame) (meth : Method) (c : Code) (Z : State → Prop),
    gCtx X ini own cc nL d p R s m args meth c KC KS n0 → Rt p l e R s m args below meth c KC KS Z →
    ∀ (H : Heap) (locs : List Loc) (la : Array Slot), lv_has la nL (jls X 0 ls) → va_P (jD X) jcl (wG X (n0 + kc) h) H → va_S (gA X) s.heap H locs → W p l e R s m args below meth c H locs kc ks Z (F0 m pc la (st.map (mv X)))
def gRet (X : Cx) (cc : ByteArray) (n0 : Nat) (Q : HF → Prop) : gRT := fun p l e R s m args below meth c KC KS Z =>
  ∀ (H : Heap) (locs : List Loc) (la : Array Slot) (pc : Nat) (h : HF), Q h → decode cc pc = .ok (.return_, 1) → va_P (jD X) jcl (wG X (n0 + KC) h) H → va_S (gA X) s.heap H locs → W p l e R s m args below meth c H locs KC KS Z (F0 m pc la [])
def gr (d mc ms : Nat) : Room := { frames := d, cells := mc, slots := ms, locals := 35 * d }
def gW (X : Cx) (n : Nat) (h : HF) (U : State) : Prop := U.heap.size = jad X 0 + n ∧ va_P (jD X) jcl (wG X n h) U.heap ∧ va_K (jD X) jcl (jty X) U ∧ gAd X ∧ gst X U U.heap ∧ gnest U
def Gt (X : Cx) (M : jMI) (d : Nat) (args : List Value) (n : Nat) (h : HF) (mc ms : Nat) (Q : HF → Prop) : Prop :=
  ∀ l : Launch, Met l M.1 (Cond.code M.1 M.2.1 M.2.2.1 M.2.2.2 :: jtb) (gr d mc ms) (va_Pc (args.map (mv X)) (gW X n h)) (fun _ st oc t => (oc = .returned none ∧ ∃ h' : HF, Q h' ∧ va_P (jD X) jcl (wG X (n + mc) h') t.heap) ∧ va_F (gA X) st t) mc ms (gA X)
section GL
variable {X : Cx} {ini : Prop} {own : String} {cc : ByteArray} {nL d : Nat} {Rt : gRT} {KC KS n0 : Nat} {pc : Nat} {ls : List (Option Value)} {st : List Value} {h : HF} {kc ks : Nat}
theorem G_iconst {n : Int} {v : Int32} (hd : decode cc pc = .ok (.iconst n, 1)) (hv : Int32.ofInt n = v) (k : G X ini own cc nL d Rt KC KS n0 (pc + 1) ls (.int v :: st) h kc ks) : G X ini own cc nL d Rt KC KS n0 pc ls st h kc ks := by
  intro p l e R s m args below meth c Z C0 hR H locs la hl hP hS
  exact lv_iconst C0.1 C0.2.1 hd hv (k p l e R s m args below meth c Z C0 hR H locs la hl hP hS)
theorem G_bipush {n : Int} {v : Int32} (hd : decode cc pc = .ok (.bipush n, 2)) (hv : (Int8.ofInt n).toInt32 = v) (k : G X ini own cc nL d Rt KC KS n0 (pc + 2) ls (.int v :: st) h kc ks) : G X ini own cc nL d Rt KC KS n0 pc ls st h kc ks := by
  intro p l e R s m args below meth c Z C0 hR H locs la hl hP hS
  exact lv_bipush C0.1 C0.2.1 hd hv (k p l e R s m args below meth c Z C0 hR H locs la hl hP hS)
theorem G_sipush {n : Int} {v : Int32} (hd : decode cc pc = .ok (.sipush n, 3)) (hv : (Int16.ofInt n).toInt32 = v) (k : G X ini own cc nL d Rt KC KS n0 (pc + 3) ls (.int v :: st) h kc ks) : G X ini own cc nL d Rt KC KS n0 pc ls st h kc ks := by
  intro p l e R s m args below meth c Z C0 hR H locs la hl hP hS
  exact lv_sipush C0.1 C0.2.1 hd hv (k p l e R s m args below meth c Z C0 hR H locs la hl hP hS)
theorem G_ldc {i : Nat} {v : Int32} (hd : decode cc pc = .ok (.ldc i, 2)) (hc : Cond.constant own i v ∈ jtb) (k : G X ini own cc nL d Rt KC KS n0 (pc + 2) ls (.int v :: st) h kc ks) : G X ini own cc nL d Rt KC KS n0 pc ls st h kc ks := by
  intro p l e R s m args below meth c Z C0 hR H locs la hl hP hS
  exact lv_ldc C0.1 C0.2.1 C0.2.2.2.1 (C0.2.2.2.2.1 _ hc) hd (k p l e R s m args below meth c Z C0 hR H locs la hl hP hS)
theorem G_dup {v : Value} (hd : decode cc pc = .ok (.dup, 1)) (hc : v.category = 1) (k : G X ini own cc nL d Rt KC KS n0 (pc + 1) ls (v :: v :: st) h kc ks) : G X ini own cc nL d Rt KC KS n0 pc ls (v :: st) h kc ks := by
  intro p l e R s m args below meth c Z C0 hR H locs la hl hP hS
  exact lv_dup C0.1 C0.2.1 hd ((mv_cat X v).trans hc) (k p l e R s m args below meth c Z C0 hR H locs la hl hP hS)
theorem G_goto {off : Int} {tgt : Nat} (hd : decode cc pc = .ok (.goto off, 3)) (ht : (pc : Int) + off = (tgt : Int)) (k : G X ini own cc nL d Rt KC KS n0 tgt ls st h kc ks) : G X ini own cc nL d Rt KC KS n0 pc ls st h kc ks := by
  intro p l e R s m args below meth c Z C0 hR H locs la hl hP hS
  exact lv_goto C0.1 C0.2.1 hd ht (k p l e R s m args below meth c Z C0 hR H locs la hl hP hS)
theorem G_icmp_ge {a b : Int32} {off : Int} {tgt : Nat} (hd : decode cc pc = .ok (.if_icmp .ge off, 3)) (ht : (pc : Int) + off = (tgt : Int)) (kt : b ≤ a → G X ini own cc nL d Rt KC KS n0 tgt ls st h kc ks) (kf : ¬ b ≤ a → G X ini own cc nL d Rt KC KS n0 (pc + 3) ls st h kc ks) : G X ini own cc nL d Rt KC KS n0 pc ls (.int b :: .int a :: st) h kc ks := by
  intro p l e R s m args below meth c Z C0 hR H locs la hl hP hS
  exact lv_icmp_ge C0.1 C0.2.1 hd ht (fun z => kt z p l e R s m args below meth c Z C0 hR H locs la hl hP hS) (fun z => kf z p l e R s m args below meth c Z C0 hR H locs la hl hP hS)
theorem G_iload_n {n : Fin 4} {i : Nat} {x : Int32} (hd : decode cc pc = .ok (.iload_n n, 1)) (hi : (n : Nat) = i) (hv : ls[i]? = some (some (.int x))) (k : G X ini own cc nL d Rt KC KS n0 (pc + 1) ls (.int x :: st) h kc ks) : G X ini own cc nL d Rt KC KS n0 pc ls st h kc ks := by
  intro p l e R s m args below meth c Z C0 hR H locs la hl hP hS
  exact lv_iload_n C0.1 C0.2.1 hd hi (jls_at hl hv) (k p l e R s m args below meth c Z C0 hR H locs la hl hP hS)
theorem G_aload_n {n : Fin 4} {i : Nat} {x : Nat} (hd : decode cc pc = .ok (.aload_n n, 1)) (hi : (n : Nat) = i) (hv : ls[i]? = some (some (.ref x))) (k : G X ini own cc nL d Rt KC KS n0 (pc + 1) ls (.ref x :: st) h kc ks) : G X ini own cc nL d Rt KC KS n0 pc ls st h kc ks := by
  intro p l e R s m args below meth c Z C0 hR H locs la hl hP hS
  exact lv_aload_n C0.1 C0.2.1 hd hi (jls_at hl hv) (k p l e R s m args below meth c Z C0 hR H locs la hl hP hS)
theorem G_istore_n {n : Fin 4} {i : Nat} {x : Int32} (hd : decode cc pc = .ok (.istore_n n, 1)) (hi : (n : Nat) = i) (hn : i < nL) (hp : ∀ j, j + 1 = i → ∀ x, ls[j]? = some x → lok x = true) (k : G X ini own cc nL d Rt KC KS n0 (pc + 1) (ls.set i (some (.int x))) st h kc ks) : G X ini own cc nL d Rt KC KS n0 pc ls (.int x :: st) h kc ks := by
  intro p l e R s m args below meth c Z C0 hR H locs la hl hP hS
  exact lv_istore_n C0.1 C0.2.1 hd hi hl hn rfl (fun la hl => k p l e R s m args below meth c Z C0 hR H locs la (jls_set1 hp hl) hP hS)
theorem G_astore_n {n : Fin 4} {i : Nat} {x : Nat} (hd : decode cc pc = .ok (.astore_n n, 1)) (hi : (n : Nat) = i) (hn : i < nL) (hp : ∀ j, j + 1 = i → ∀ x, ls[j]? = some x → lok x = true) (k : G X ini own cc nL d Rt KC KS n0 (pc + 1) (ls.set i (some (.ref x))) st h kc ks) : G X ini own cc nL d Rt KC KS n0 pc ls (.ref x :: st) h kc ks := by
  intro p l e R s m args below meth c Z C0 hR H locs la hl hP hS
  exact lv_astore_n C0.1 C0.2.1 hd hi hl hn rfl (fun la hl => k p l e R s m args below meth c Z C0 hR H locs la (jls_set1 hp hl) hP hS)
theorem G_iinc {i : Nat} {n : Int} {x v : Int32} (hd : decode cc pc = .ok (.iinc i n, 3)) (hv : ls[i]? = some (some (.int x))) (he : x + Int32.ofInt n = v) (hn : i < nL) (hp : ∀ j, j + 1 = i → ∀ x, ls[j]? = some x → lok x = true) (k : G X ini own cc nL d Rt KC KS n0 (pc + 3) (ls.set i (some (.int v))) st h kc ks) : G X ini own cc nL d Rt KC KS n0 pc ls st h kc ks := by
  intro p l e R s m args below meth c Z C0 hR H locs la hl hP hS
  obtain ⟨kk, hkk⟩ := List.getElem?_of_mem (jls_mem.mpr ⟨i, .int x, hv, rfl⟩ : (0 + i, mv X (.int x)) ∈ jls X 0 ls)
  rw [Nat.zero_add] at hkk
  exact lv_iinc C0.1 C0.2.1 hd hl hkk he hn rfl (fun la hl => k p l e R s m args below meth c Z C0 hR H locs la (jls_set1 hp hl) hP hS)
theorem G_iload {i : Nat} {x : Int32} (hd : decode cc pc = .ok (.iload i, 2)) (hv : ls[i]? = some (some (.int x))) (k : G X ini own cc nL d Rt KC KS n0 (pc + 2) ls (.int x :: st) h kc ks) : G X ini own cc nL d Rt KC KS n0 pc ls st h kc ks := by
  intro p l e R s m args below meth c Z C0 hR H locs la hl hP hS
  exact lv_iload C0.1 C0.2.1 hd (jls_at hl hv) (k p l e R s m args below meth c Z C0 hR H locs la hl hP hS)
theorem G_aload {i : Nat} {x : Nat} (hd : decode cc pc = .ok (.aload i, 2)) (hv : ls[i]? = some (some (.ref x))) (k : G X ini own cc nL d Rt KC KS n0 (pc + 2) ls (.ref x :: st) h kc ks) : G X ini own cc nL d Rt KC KS n0 pc ls st h kc ks := by
  intro p l e R s m args below meth c Z C0 hR H locs la hl hP hS
  exact lv_aload C0.1 C0.2.1 hd (jls_at hl hv) (k p l e R s m args below meth c Z C0 hR H locs la hl hP hS)
theorem G_topi {a b : Int32} (e : a = b) (k : G X ini own cc nL d Rt KC KS n0 pc ls (.int b :: st) h kc ks) : G X ini own cc nL d Rt KC KS n0 pc ls (.int a :: st) h kc ks := e ▸ k
theorem G_iload_0 {t : List (Option Value)} {x : Int32} (hd : decode cc pc = .ok (.iload_n 0, 1)) (k : G X ini own cc nL d Rt KC KS n0 (pc + 1) (some (.int x) :: t) (.int x :: st) h kc ks) : G X ini own cc nL d Rt KC KS n0 pc (some (.int x) :: t) st h kc ks := G_iload_n hd rfl rfl k
theorem G_iload_1 {a0 : Option Value} {t : List (Option Value)} {x : Int32} (hd : decode cc pc = .ok (.iload_n 1, 1)) (k : G X ini own cc nL d Rt KC KS n0 (pc + 1) (a0 :: some (.int x) :: t) (.int x :: st) h kc ks) : G X ini own cc nL d Rt KC KS n0 pc (a0 :: some (.int x) :: t) st h kc ks := G_iload_n hd rfl rfl k
theorem G_iload_2 {a0 a1 : Option Value} {t : List (Option Value)} {x : Int32} (hd : decode cc pc = .ok (.iload_n 2, 1)) (k : G X ini own cc nL d Rt KC KS n0 (pc + 1) (a0 :: a1 :: some (.int x) :: t) (.int x :: st) h kc ks) : G X ini own cc nL d Rt KC KS n0 pc (a0 :: a1 :: some (.int x) :: t) st h kc ks := G_iload_n hd rfl rfl k
theorem G_iload_3 {a0 a1 a2 : Option Value} {t : List (Option Value)} {x : Int32} (hd : decode cc pc = .ok (.iload_n 3, 1)) (k : G X ini own cc nL d Rt KC KS n0 (pc + 1) (a0 :: a1 :: a2 :: some (.int x) :: t) (.int x :: st) h kc ks) : G X ini own cc nL d Rt KC KS n0 pc (a0 :: a1 :: a2 :: some (.int x) :: t) st h kc ks := G_iload_n hd rfl rfl k
theorem G_istore_0 {y : Option Value} {t : List (Option Value)} {x : Int32} (hd : decode cc pc = .ok (.istore_n 0, 1)) (hn : 0 < nL)  (k : G X ini own cc nL d Rt KC KS n0 (pc + 1) (some (.int x) :: t) st h kc ks) : G X ini own cc nL d Rt KC KS n0 pc (y :: t) (.int x :: st) h kc ks := G_istore_n hd rfl hn (fun j hj => by omega) k
theorem G_istore_1 {a0 : Option Value} {y : Option Value} {t : List (Option Value)} {x : Int32} (hd : decode cc pc = .ok (.istore_n 1, 1)) (hn : 1 < nL) (hp : lok a0 = true) (k : G X ini own cc nL d Rt KC KS n0 (pc + 1) (a0 :: some (.int x) :: t) st h kc ks) : G X ini own cc nL d Rt KC KS n0 pc (a0 :: y :: t) (.int x :: st) h kc ks := G_istore_n hd rfl hn (fun j hj x hx => by have e : j = 0 := (by omega); subst e; cases hx; exact hp) k
theorem G_istore_2 {a0 a1 : Option Value} {y : Option Value} {t : List (Option Value)} {x : Int32} (hd : decode cc pc = .ok (.istore_n 2, 1)) (hn : 2 < nL) (hp : lok a1 = true) (k : G X ini own cc nL d Rt KC KS n0 (pc + 1) (a0 :: a1 :: some (.int x) :: t) st h kc ks) : G X ini own cc nL d Rt KC KS n0 pc (a0 :: a1 :: y :: t) (.int x :: st) h kc ks := G_istore_n hd rfl hn (fun j hj x hx => by have e : j = 1 := (by omega); subst e; cases hx; exact hp) k
theorem G_istore_3 {a0 a1 a2 : Option Value} {y : Option Value} {t : List (Option Value)} {x : Int32} (hd : decode cc pc = .ok (.istore_n 3, 1)) (hn : 3 < nL) (hp : lok a2 = true) (k : G X ini own cc nL d Rt KC KS n0 (pc + 1) (a0 :: a1 :: a2 :: some (.int x) :: t) st h kc ks) : G X ini own cc nL d Rt KC KS n0 pc (a0 :: a1 :: a2 :: y :: t) (.int x :: st) h kc ks := G_istore_n hd rfl hn (fun j hj x hx => by have e : j = 2 := (by omega); subst e; cases hx; exact hp) k
theorem G_aload_0 {t : List (Option Value)} {x : Nat} (hd : decode cc pc = .ok (.aload_n 0, 1)) (k : G X ini own cc nL d Rt KC KS n0 (pc + 1) (some (.ref x) :: t) (.ref x :: st) h kc ks) : G X ini own cc nL d Rt KC KS n0 pc (some (.ref x) :: t) st h kc ks := G_aload_n hd rfl rfl k
theorem G_aload_1 {a0 : Option Value} {t : List (Option Value)} {x : Nat} (hd : decode cc pc = .ok (.aload_n 1, 1)) (k : G X ini own cc nL d Rt KC KS n0 (pc + 1) (a0 :: some (.ref x) :: t) (.ref x :: st) h kc ks) : G X ini own cc nL d Rt KC KS n0 pc (a0 :: some (.ref x) :: t) st h kc ks := G_aload_n hd rfl rfl k
theorem G_aload_2 {a0 a1 : Option Value} {t : List (Option Value)} {x : Nat} (hd : decode cc pc = .ok (.aload_n 2, 1)) (k : G X ini own cc nL d Rt KC KS n0 (pc + 1) (a0 :: a1 :: some (.ref x) :: t) (.ref x :: st) h kc ks) : G X ini own cc nL d Rt KC KS n0 pc (a0 :: a1 :: some (.ref x) :: t) st h kc ks := G_aload_n hd rfl rfl k
theorem G_aload_3 {a0 a1 a2 : Option Value} {t : List (Option Value)} {x : Nat} (hd : decode cc pc = .ok (.aload_n 3, 1)) (k : G X ini own cc nL d Rt KC KS n0 (pc + 1) (a0 :: a1 :: a2 :: some (.ref x) :: t) (.ref x :: st) h kc ks) : G X ini own cc nL d Rt KC KS n0 pc (a0 :: a1 :: a2 :: some (.ref x) :: t) st h kc ks := G_aload_n hd rfl rfl k
theorem G_astore_0 {y : Option Value} {t : List (Option Value)} {x : Nat} (hd : decode cc pc = .ok (.astore_n 0, 1)) (hn : 0 < nL)  (k : G X ini own cc nL d Rt KC KS n0 (pc + 1) (some (.ref x) :: t) st h kc ks) : G X ini own cc nL d Rt KC KS n0 pc (y :: t) (.ref x :: st) h kc ks := G_astore_n hd rfl hn (fun j hj => by omega) k
theorem G_astore_1 {a0 : Option Value} {y : Option Value} {t : List (Option Value)} {x : Nat} (hd : decode cc pc = .ok (.astore_n 1, 1)) (hn : 1 < nL) (hp : lok a0 = true) (k : G X ini own cc nL d Rt KC KS n0 (pc + 1) (a0 :: some (.ref x) :: t) st h kc ks) : G X ini own cc nL d Rt KC KS n0 pc (a0 :: y :: t) (.ref x :: st) h kc ks := G_astore_n hd rfl hn (fun j hj x hx => by have e : j = 0 := (by omega); subst e; cases hx; exact hp) k
theorem G_astore_2 {a0 a1 : Option Value} {y : Option Value} {t : List (Option Value)} {x : Nat} (hd : decode cc pc = .ok (.astore_n 2, 1)) (hn : 2 < nL) (hp : lok a1 = true) (k : G X ini own cc nL d Rt KC KS n0 (pc + 1) (a0 :: a1 :: some (.ref x) :: t) st h kc ks) : G X ini own cc nL d Rt KC KS n0 pc (a0 :: a1 :: y :: t) (.ref x :: st) h kc ks := G_astore_n hd rfl hn (fun j hj x hx => by have e : j = 1 := (by omega); subst e; cases hx; exact hp) k
theorem G_astore_3 {a0 a1 a2 : Option Value} {y : Option Value} {t : List (Option Value)} {x : Nat} (hd : decode cc pc = .ok (.astore_n 3, 1)) (hn : 3 < nL) (hp : lok a2 = true) (k : G X ini own cc nL d Rt KC KS n0 (pc + 1) (a0 :: a1 :: a2 :: some (.ref x) :: t) st h kc ks) : G X ini own cc nL d Rt KC KS n0 pc (a0 :: a1 :: a2 :: y :: t) (.ref x :: st) h kc ks := G_astore_n hd rfl hn (fun j hj x hx => by have e : j = 2 := (by omega); subst e; cases hx; exact hp) k
theorem G_iinc_0 {t : List (Option Value)} {n : Int} {x v : Int32} (hd : decode cc pc = .ok (.iinc 0 n, 3)) (he : x + Int32.ofInt n = v) (hn : 0 < nL)  (k : G X ini own cc nL d Rt KC KS n0 (pc + 3) (some (.int v) :: t) st h kc ks) : G X ini own cc nL d Rt KC KS n0 pc (some (.int x) :: t) st h kc ks := G_iinc hd rfl he hn (fun j hj => by omega) k
theorem G_iinc_1 {a0 : Option Value} {t : List (Option Value)} {n : Int} {x v : Int32} (hd : decode cc pc = .ok (.iinc 1 n, 3)) (he : x + Int32.ofInt n = v) (hn : 1 < nL) (hp : lok a0 = true) (k : G X ini own cc nL d Rt KC KS n0 (pc + 3) (a0 :: some (.int v) :: t) st h kc ks) : G X ini own cc nL d Rt KC KS n0 pc (a0 :: some (.int x) :: t) st h kc ks := G_iinc hd rfl he hn (fun j hj x hx => by have e : j = 0 := (by omega); subst e; cases hx; exact hp) k
theorem G_iinc_2 {a0 a1 : Option Value} {t : List (Option Value)} {n : Int} {x v : Int32} (hd : decode cc pc = .ok (.iinc 2 n, 3)) (he : x + Int32.ofInt n = v) (hn : 2 < nL) (hp : lok a1 = true) (k : G X ini own cc nL d Rt KC KS n0 (pc + 3) (a0 :: a1 :: some (.int v) :: t) st h kc ks) : G X ini own cc nL d Rt KC KS n0 pc (a0 :: a1 :: some (.int x) :: t) st h kc ks := G_iinc hd rfl he hn (fun j hj x hx => by have e : j = 1 := (by omega); subst e; cases hx; exact hp) k
theorem G_iinc_3 {a0 a1 a2 : Option Value} {t : List (Option Value)} {n : Int} {x v : Int32} (hd : decode cc pc = .ok (.iinc 3 n, 3)) (he : x + Int32.ofInt n = v) (hn : 3 < nL) (hp : lok a2 = true) (k : G X ini own cc nL d Rt KC KS n0 (pc + 3) (a0 :: a1 :: a2 :: some (.int v) :: t) st h kc ks) : G X ini own cc nL d Rt KC KS n0 pc (a0 :: a1 :: a2 :: some (.int x) :: t) st h kc ks := G_iinc hd rfl he hn (fun j hj x hx => by have e : j = 2 := (by omega); subst e; cases hx; exact hp) k
theorem G_inc_0 {t : List (Option Value)} {j : Nat} (hd : decode cc pc = .ok (.iinc 0 1, 3)) (hn : 0 < nL)  (k : G X ini own cc nL d Rt KC KS n0 (pc + 3) (some (.int (nI (j + 1))) :: t) st h kc ks) : G X ini own cc nL d Rt KC KS n0 pc (some (.int (nI j)) :: t) st h kc ks := G_iinc_0 hd (nI_1 j) hn  k
theorem G_inc_1 {a0 : Option Value} {t : List (Option Value)} {j : Nat} (hd : decode cc pc = .ok (.iinc 1 1, 3)) (hn : 1 < nL) (hp : lok a0 = true) (k : G X ini own cc nL d Rt KC KS n0 (pc + 3) (a0 :: some (.int (nI (j + 1))) :: t) st h kc ks) : G X ini own cc nL d Rt KC KS n0 pc (a0 :: some (.int (nI j)) :: t) st h kc ks := G_iinc_1 hd (nI_1 j) hn hp k
theorem G_inc_2 {a0 a1 : Option Value} {t : List (Option Value)} {j : Nat} (hd : decode cc pc = .ok (.iinc 2 1, 3)) (hn : 2 < nL) (hp : lok a1 = true) (k : G X ini own cc nL d Rt KC KS n0 (pc + 3) (a0 :: a1 :: some (.int (nI (j + 1))) :: t) st h kc ks) : G X ini own cc nL d Rt KC KS n0 pc (a0 :: a1 :: some (.int (nI j)) :: t) st h kc ks := G_iinc_2 hd (nI_1 j) hn hp k
theorem G_inc_3 {a0 a1 a2 : Option Value} {t : List (Option Value)} {j : Nat} (hd : decode cc pc = .ok (.iinc 3 1, 3)) (hn : 3 < nL) (hp : lok a2 = true) (k : G X ini own cc nL d Rt KC KS n0 (pc + 3) (a0 :: a1 :: a2 :: some (.int (nI (j + 1))) :: t) st h kc ks) : G X ini own cc nL d Rt KC KS n0 pc (a0 :: a1 :: a2 :: some (.int (nI j)) :: t) st h kc ks := G_iinc_3 hd (nI_1 j) hn hp k
theorem G_icmp_geN {a b : Nat} {off : Int} {tgt : Nat} (hd : decode cc pc = .ok (.if_icmp .ge off, 3)) (ht : (pc : Int) + off = (tgt : Int)) (ha : a < 2 ^ 31) (hb : b < 2 ^ 31) (kt : b ≤ a → G X ini own cc nL d Rt KC KS n0 tgt ls st h kc ks) (kf : a < b → G X ini own cc nL d Rt KC KS n0 (pc + 3) ls st h kc ks) : G X ini own cc nL d Rt KC KS n0 pc ls (.int (nI b) :: .int (nI a) :: st) h kc ks :=
  G_icmp_ge hd ht (fun z => kt ((nI_leI hb ha).mp z)) (fun z => kf (Nat.lt_of_not_le fun y => z ((nI_leI hb ha).mpr y)))
theorem G_vret {Q : HF → Prop} (hd : decode cc pc = .ok (.return_, 1)) (h1 : kc = KC) (h2 : ks ≤ KS) (hq : Q h) : G X ini own cc nL d (gRet X cc n0 Q) KC KS n0 pc ls [] h kc ks := by
  subst h1
  intro p l e R s m args below meth c Z C0 hR H locs la hl hP hS
  exact W.widen (Nat.le_refl _) h2 (hR H locs la pc h hq hd hP hS)
theorem G_get {idx ci q a : Nat} {fs : List Value} {v : Value} (hd : decode cc pc = .ok (.getfield idx, 3)) (fl : jFL own idx ci q) (hc : hAt h a (oB ci fs)) (hn : gp a < n0 + kc) (hv : fs[q]? = some v) (k : G X ini own cc nL d Rt KC KS n0 (pc + 3) ls (v :: st) h kc ks) : G X ini own cc nL d Rt KC KS n0 pc ls (.ref a :: st) h kc ks := by
  intro p l e R s m args below meth c Z C0 hR H locs la hl hP hS
  obtain ⟨C, T, N, h1, h2, h3, h4⟩ := fl
  obtain ⟨ha, he⟩ := hc
  have ad := C0.2.2.2.2.2.2.1
  exact va_get C0.1 C0.2.1 C0.2.2.2.2.1 h3 C0.2.2.2.1 C0.2.2.2.2.2.1 hP (gp a) (fs := fs.map (mv X)) (ci := ci) (by rw [wG_at ad ha hn, he]; rfl) h1 q h2 (C0.2.2.2.2.1 _ h4) (fun _ h9 => h9) (v := mv X v) (by rw [List.getElem?_map, hv]; rfl) hd (k p l e R s m args below meth c Z C0 hR H locs la hl hP hS)
theorem wG_fs {n ci q a : Nat} {fs : List Value} {v : Value} (ad : gAd X) (ha : a < 71) (hn : gp a < n) : (wG X n h).set (gp a) (jad X a, .inr (ci, (fs.map (mv X)).set q (mv X v))) = wG X n (hu h a (oB ci (fs.set q v))) := by
  rw [← wG_set ad ha hn]
  show _ = (wG X n h).set (gp a) (jad X a, .inr (ci, (fs.set q v).map (mv X)))
  rw [List.map_set]
theorem G_put {idx ci q a : Nat} {ty : FieldType} {fs : List Value} {v : Value} (hd : decode cc pc = .ok (.putfield idx, 3)) (fl : jFP own idx ci q ty) (hc : hAt h a (oB ci fs)) (hg : gp a < n0 + kc) (hq : q < fs.length) (hn : narrow ty (mv X v) = mv X v) (hf : fits ty (mv X v) = true) (k : G X ini own cc nL d Rt KC KS n0 (pc + 3) ls st (hu h a (oB ci (fs.set q v))) kc ks) : G X ini own cc nL d Rt KC KS n0 pc ls (v :: .ref a :: st) h kc ks := by
  intro p l e R s m args below meth c Z C0 hR H locs la hl hP hS
  obtain ⟨C, T, N, ty0, h1, h2, h3, h4, h5, h6, h7, h8⟩ := fl
  obtain ⟨ha, he⟩ := hc
  have ad := C0.2.2.2.2.2.2.1
  exact va_put C0.1 C0.2.1 C0.2.2.2.2.1 h3 ty0 h5 h6 C0.2.2.2.1 C0.2.2.2.2.2.1 hP wG_D hS (gp a) (fs := fs.map (mv X)) (ci := ci) (by rw [wG_at ad ha hg, he]; rfl) h1 q h2 (C0.2.2.2.2.1 _ h4) (fun _ h9 => h9) h7 h8 hn hf (by rw [List.length_map]; exact hq) hd (fun H locs hP _ hS => k p l e R s m args below meth c Z C0 hR H locs la hl (wG_fs ad ha hg ▸ hP) hS)
theorem G_putF {idx ci q a : Nat} {ty : FieldType} {fs : List Value} {v : Value} (hi : ini) (hd : decode cc pc = .ok (.putfield idx, 3)) (fl : jFF own idx ci q ty) (hc : hAt h a (oB ci fs)) (hg : gp a < n0 + kc) (hq : q < fs.length) (hn : narrow ty (mv X v) = mv X v) (hf : fits ty (mv X v) = true) (k : G X ini own cc nL d Rt KC KS n0 (pc + 3) ls st (hu h a (oB ci (fs.set q v))) kc ks) : G X ini own cc nL d Rt KC KS n0 pc ls (v :: .ref a :: st) h kc ks := by
  intro p l e R s m args below meth c Z C0 hR H locs la hl hP hS
  obtain ⟨C, T, N, ty0, h1, h2, h3, h4, h5, h6, h7, h7b, h8⟩ := fl
  obtain ⟨ha, he⟩ := hc
  have ad := C0.2.2.2.2.2.2.1
  have hin := C0.2.2.2.2.2.2.2.2.2.2.2.1 hi
  exact va_putF C0.1 C0.2.1 C0.2.2.2.2.1 h3 ty0 h5 h6 C0.2.2.2.1 C0.2.2.2.2.2.1 hP wG_D hS (gp a) (fs := fs.map (mv X)) (ci := ci) (by rw [wG_at ad ha hg, he]; rfl) h1 q h2 (C0.2.2.2.2.1 _ h4) (fun _ h9 => h9) h7 hin h7b h8 hn hf (by rw [List.length_map]; exact hq) hd (fun H locs hP _ hS => k p l e R s m args below meth c Z C0 hR H locs la hl (wG_fs ad ha hg ▸ hP) hS)
theorem G_iast {a n j : Nat} {f : Nat → Int32} {i x : Int32} (hd : decode cc pc = .ok (.iastore, 1)) (hc : hAt h a (oA 0 n f)) (hg : gp a < n0 + kc) (hi : i = nI j) (hj : j < n) (hn : n < 2 ^ 31) (k : G X ini own cc nL d Rt KC KS n0 (pc + 1) ls st (hu h a (oA 0 n (upd f j x))) kc ks) : G X ini own cc nL d Rt KC KS n0 pc ls (.int x :: .int i :: .ref a :: st) h kc ks := by
  intro p l e R s m args below meth c Z C0 hR H locs la hl hP hS
  subst hi
  obtain ⟨ha, he⟩ := hc
  have ad := C0.2.2.2.2.2.2.1
  have hset : (wG X (n0 + kc) h).set (gp a) (jad X a, .inl (jK X 0, n, .inl (upd f j x))) = wG X (n0 + kc) (hu h a (oA 0 n (upd f j x))) := wG_set (c := oA 0 n (upd f j x)) ad ha hg
  refine va_iast C0.1 C0.2.1 C0.2.2.2.2.2.1 hP wG_D hS (gp a) 0 (f := f) (n := n) (cA := jK X 0) (by rw [wG_at ad ha hg, he]; rfl) rfl (vp_in_nI hj hn) hd ?_
  rw [nI_clamp (Nat.lt_trans hj hn)]
  exact (fun H locs hP _ hS => k p l e R s m args below meth c Z C0 hR H locs la hl (hset ▸ hP) hS)
theorem G_alen {a n t : Nat} {f : Nat → Int32} (hd : decode cc pc = .ok (.arraylength, 1)) (hc : hAt h a (oA t n f)) (hg : gp a < n0 + kc) (ht : ∃ ty, (jty X)[t]? = some (jK X t, ty)) (k : G X ini own cc nL d Rt KC KS n0 (pc + 1) ls (.int (nI n) :: st) h kc ks) : G X ini own cc nL d Rt KC KS n0 pc ls (.ref a :: st) h kc ks := by
  intro p l e R s m args below meth c Z C0 hR H locs la hl hP hS
  obtain ⟨ha, he⟩ := hc
  obtain ⟨ty, ht⟩ := ht
  have ad := C0.2.2.2.2.2.2.1
  exact va_alen C0.1 C0.2.1 C0.2.2.2.2.2.1 hP (gp a) t (x := (n, .inl f)) (cA := jK X t) (by rw [wG_at ad ha hg, he]; rfl) ht (v := nI n) rfl hd (k p l e R s m args below meth c Z C0 hR H locs la hl hP hS)
theorem G_aast {a n j t b ci : Nat} {r : vw_C} {vs : List Value} {f : Nat → Option Nat} {i : Int32} (hd : decode cc pc = .ok (.aastore, 1)) (hc : hAt h a (oR t n f)) (hg : gp a < n0 + kc) (hb : hAt h b (oB ci vs)) (hgb : gp b < n0 + kc) (hr : jcl[ci]? = some r) (ht : (jty X)[t]? = some (jK X t, .object r.1)) (hi : i = nI j) (hj : j < n) (hn : n < 2 ^ 31) (k : G X ini own cc nL d Rt KC KS n0 (pc + 1) ls st (hu h a (oR t n (va_up f j (some b)))) kc ks) : G X ini own cc nL d Rt KC KS n0 pc ls (.ref b :: .int i :: .ref a :: st) h kc ks := by
  intro p l e R s m args below meth c Z C0 hR H locs la hl hP hS
  subst hi
  obtain ⟨ha, he⟩ := hc
  obtain ⟨hb, hbe⟩ := hb
  have ad := C0.2.2.2.2.2.2.1
  have hset : (wG X (n0 + kc) h).set (gp a) (jad X a, .inl (jK X t, n, .inr (.inr (.inr (.inr (va_up (fun j => (f j).map (jad X)) j (some (jad X b)))))))) = wG X (n0 + kc) (hu h a (oR t n (va_up f j (some b)))) := by
    rw [← wG_set ad ha hg]
    show _ = (wG X (n0 + kc) h).set (gp a) (jad X a, .inl (jK X t, n, .inr (.inr (.inr (.inr (fun q => (va_up f j (some b) q).map (jad X)))))))
    have e : va_up (fun j => (f j).map (jad X)) j (some (jad X b)) = fun q => (va_up f j (some b) q).map (jad X) := by
      funext q
      unfold va_up
      split <;> rfl
    rw [e]
  refine va_astq C0.1 C0.2.1 C0.2.2.2.2.2.1 hP wG_D hS (gp a) t (gp b) ci (f := fun j => (f j).map (jad X)) (n := n) (cA := jK X t) (vs := vs.map (mv X)) (v := jad X b) (by rw [wG_at ad ha hg, he]; rfl) ht (by rw [wG_at ad hb hgb, hbe]; rfl) hr (vp_in_nI hj hn) hd ?_
  rw [nI_clamp (Nat.lt_trans hj hn)]
  exact (fun H locs hP _ hS => k p l e R s m args below meth c Z C0 hR H locs la hl (hset ▸ hP) hS)
theorem G_gs0 {idx : Nat} (hd : decode cc pc = .ok (.getstatic idx, 3)) (hf : Cond.fieldLink own idx RX6 "HIGHEST_SETTING" "[I" ∈ jtb) (k : G X ini own cc nL d Rt KC KS n0 (pc + 3) ls (.ref 1000 :: st) h kc ks) : G X ini own cc nL d Rt KC KS n0 pc ls st h kc ks := by
  intro p l e R s m args below meth c Z C0 hR H locs la hl hP hS
  exact va_gets C0.1 C0.2.1 C0.2.2.2.2.2.2.2.1.1 hS C0.2.2.2.1 (C0.2.2.2.2.1 _ hf) (fun _ h9 => h9) hd (k p l e R s m args below meth c Z C0 hR H locs la hl hP hS)
theorem G_tn0 (hd : decode cc pc = .ok (.arraylength, 1)) (k : G X ini own cc nL d Rt KC KS n0 (pc + 1) ls (.int (nI 3) :: st) h kc ks) : G X ini own cc nL d Rt KC KS n0 pc ls (.ref 1000 :: st) h kc ks := by
  intro p l e R s m args below meth c Z C0 hR H locs la hl hP hS
  exact va_tlen C0.1 C0.2.1 C0.2.2.2.2.2.2.2.1.2 hS (v := nI 3) rfl hd (k p l e R s m args below meth c Z C0 hR H locs la hl hP hS)
/-- the new cell's address: all below it are taken -/
theorem g_new {s : State} {H1 : Heap} {n q : Nat} {e0 : va_E} (hs : s.heap.size = jad X 0 + n0) (hn : n = n0 + kc) (hup : H1.size ≤ s.heap.size + (kc + 1)) (hP : va_P (jD X) jcl (wG X n h ++ [(q, e0)]) H1) (hD : va_D (gA X) (wG X n h ++ [(q, e0)])) : q = jad X 0 + n := by
  have hlen : (wG X n h).length = n := by simp only [wG, List.length_map, List.length_range]
  have hlast : (wG X n h ++ [(q, e0)])[n]? = some (q, e0) := by rw [List.getElem?_append_right (by omega), hlen, Nat.sub_self]; rfl
  have h1 : q < H1.size := (hP n _ hlast).lt
  have h2 : jad X 0 ≤ q := hD.2 n _ hlast
  rcases Nat.lt_or_ge q (jad X 0 + n) with z | z
  · have hat : (wG X n h ++ [(q, e0)])[q - jad X 0]? = some (jad X 0 + (q - jad X 0), encE X (h (gs (q - jad X 0)))) := by rw [List.getElem?_append_left (by omega), wG_get (by omega)]
    have := hD.1 (q - jad X 0) n _ _ hat hlast (by show jad X 0 + (q - jad X 0) = q; omega)
    omega
  · omega
theorem G_new {idx ci N : Nat} {ty : Nat → FieldType} {i : Nat} {fs : List Value} (hd : decode cc pc = .ok (.new idx, 3)) (g : gNW own idx ci N ty) (hfs : ∀ j, j < N → defaultValue (ty j) = vp_V (fs.map (mv X)) j) (hi : gs (n0 + kc) = i) (h71 : i < 71) (h1 : kc + 1 ≤ KC) (h2 : ks + N ≤ KS) (k : G X ini own cc nL d Rt KC KS n0 (pc + 3) ls (.ref i :: st) (hu h i (oB ci fs)) (kc + 1) (ks + N)) : G X ini own cc nL d Rt KC KS n0 pc ls st h kc ks := by
  subst hi
  intro p l e R s m args below meth c Z C0 hR H locs la hl hP hS
  obtain ⟨C, T, g1, g2, g3, g4, g5, g6⟩ := g
  obtain ⟨hx, hb, hml, hown, hts, hK, ad, hst, hrm, hnn, hsz, hin, hKC, hKS⟩ := id C0
  refine va_new hx hb hts g2 ty g3 hown (hts _ g4) (hts _ g5) (hts _ g6) hK hP wG_D hS (fun q hq => by show jad X 0 ≤ q; omega) g1 hfs (by omega) (by omega) hd (fun q H1 hP1 hD1 hS1 => ?_)
  intro T1 hT1 XX
  have hup := XX.heapSize
  rw [hT1] at hup
  have hq := g_new (X := X) hsz rfl hup hP1 hD1
  subst hq
  have hw : wG X (n0 + kc) h ++ [(jad X 0 + (n0 + kc), .inr (ci, fs.map (mv X)))] = wG X (n0 + kc + 1) (hu h (gs (n0 + kc)) (oB ci fs)) := wG_push (c := oB ci fs)
  rw [hw] at hP1
  have ea : jad X (gs (n0 + kc)) = jad X 0 + (n0 + kc) := by rw [ad _ h71, gp_gs]
  have kk := k p l e R s m args below meth c Z C0 hR H1 locs la hl hP1 hS1 T1 hT1 XX
  have e2 : ((Value.ref (gs (n0 + kc)) :: st).map (mv X)) = Value.ref (jad X 0 + (n0 + kc)) :: st.map (mv X) := by rw [List.map_cons, ← ea]; rfl
  rw [e2] at kk
  exact kk
theorem G_newa {i N : Nat} (hd : decode cc pc = .ok (.newarray .int, 2)) (hN : N < 1000) (hi : gs (n0 + kc) = i) (h71 : i < 71) (h1 : kc + 1 ≤ KC) (h2 : ks + N ≤ KS) (k : G X ini own cc nL d Rt KC KS n0 (pc + 2) ls (.ref i :: st) (hu h i (oA 0 N (fun _ => 0))) (kc + 1) (ks + N)) : G X ini own cc nL d Rt KC KS n0 pc ls (.int (nI N) :: st) h kc ks := by
  subst hi
  intro p l e R s m args below meth c Z C0 hR H locs la hl hP hS
  obtain ⟨hx, hb, hml, hown, hts, hK, ad, hst, hrm, hnn, hsz, hin, hKC, hKS⟩ := id C0
  refine va_newa (atype := .int) (ty := .int) (a0 := (N, .inl (fun _ => 0))) hx hb (hts _ gac_int) rfl hK hP wG_D hS (fun q hq => by show jad X 0 ≤ q; omega) (fun cA => rfl) (nI_pos (by omega)) (nI_clamp (by omega)) (by show N * 4 ≤ _; omega) (by omega) (by omega) hd (fun q cA H1 hK1 hP1 hD1 hS1 => ?_)
  intro T1 hT1 XX
  have hup := XX.heapSize
  rw [hT1] at hup
  have hq := g_new (X := X) hsz rfl hup hP1 hD1
  subst hq
  have hcA : cA = jK X 0 := by
    have z1 : s.vm.findClass ("[" ++ FieldType.int.toString) = some cA := (hK1.2 6 (cA, .int) rfl).2
    have z2 : s.vm.findClass ("[" ++ FieldType.int.toString) = some (jK X 0) := (hK.2 0 (jK X 0, .int) rfl).2
    exact Option.some.inj (z1.symm.trans z2)
  subst hcA
  have hw : wG X (n0 + kc) h ++ [(jad X 0 + (n0 + kc), .inl (jK X 0, N, .inl (fun _ => 0)))] = wG X (n0 + kc + 1) (hu h (gs (n0 + kc)) (oA 0 N (fun _ => 0))) := wG_push (c := oA 0 N (fun _ => 0))
  rw [hw] at hP1
  have ea : jad X (gs (n0 + kc)) = jad X 0 + (n0 + kc) := by rw [ad _ h71, gp_gs]
  have kk := k p l e R s m args below meth c Z C0 hR H1 locs la hl hP1 hS1 T1 hT1 XX
  have e2 : ((Value.ref (gs (n0 + kc)) :: st).map (mv X)) = Value.ref (jad X 0 + (n0 + kc)) :: st.map (mv X) := by rw [List.map_cons, ← ea]; rfl
  rw [e2] at kk
  exact kk
theorem G_newz {i N : Nat} (hd : decode cc pc = .ok (.newarray .boolean, 2)) (hN : N < 1000) (hi : gs (n0 + kc) = i) (h71 : i < 71) (h1 : kc + 1 ≤ KC) (h2 : ks + N ≤ KS) (k : G X ini own cc nL d Rt KC KS n0 (pc + 2) ls (.ref i :: st) (hu h i (oA 1 N (fun _ => 0))) (kc + 1) (ks + N)) : G X ini own cc nL d Rt KC KS n0 pc ls (.int (nI N) :: st) h kc ks := by
  subst hi
  intro p l e R s m args below meth c Z C0 hR H locs la hl hP hS
  obtain ⟨hx, hb, hml, hown, hts, hK, ad, hst, hrm, hnn, hsz, hin, hKC, hKS⟩ := id C0
  refine va_newa (atype := .boolean) (ty := .boolean) (a0 := (N, .inl (fun _ => 0))) hx hb (hts _ gac_boolean) rfl hK hP wG_D hS (fun q hq => by show jad X 0 ≤ q; omega) (fun cA => rfl) (nI_pos (by omega)) (nI_clamp (by omega)) (by show N * 1 ≤ _; omega) (by omega) (by omega) hd (fun q cA H1 hK1 hP1 hD1 hS1 => ?_)
  intro T1 hT1 XX
  have hup := XX.heapSize
  rw [hT1] at hup
  have hq := g_new (X := X) hsz rfl hup hP1 hD1
  subst hq
  have hcA : cA = jK X 1 := by
    have z1 : s.vm.findClass ("[" ++ FieldType.boolean.toString) = some cA := (hK1.2 6 (cA, .boolean) rfl).2
    have z2 : s.vm.findClass ("[" ++ FieldType.boolean.toString) = some (jK X 1) := (hK.2 1 (jK X 1, .boolean) rfl).2
    exact Option.some.inj (z1.symm.trans z2)
  subst hcA
  have hw : wG X (n0 + kc) h ++ [(jad X 0 + (n0 + kc), .inl (jK X 1, N, .inl (fun _ => 0)))] = wG X (n0 + kc + 1) (hu h (gs (n0 + kc)) (oA 1 N (fun _ => 0))) := wG_push (c := oA 1 N (fun _ => 0))
  rw [hw] at hP1
  have ea : jad X (gs (n0 + kc)) = jad X 0 + (n0 + kc) := by rw [ad _ h71, gp_gs]
  have kk := k p l e R s m args below meth c Z C0 hR H1 locs la hl hP1 hS1 T1 hT1 XX
  have e2 : ((Value.ref (gs (n0 + kc)) :: st).map (mv X)) = Value.ref (jad X 0 + (n0 + kc)) :: st.map (mv X) := by rw [List.map_cons, ← ea]; rfl
  rw [e2] at kk
  exact kk
theorem G_newq {i N t idx : Nat} {C : String} (hd : decode cc pc = .ok (.anewarray idx, 3)) (hcl : Cond.classLink own idx C ∈ jtb) (hao : ∀ s, gnest s → va_AO C s) (ht : (jty X)[t]? = some (jK X t, .object C)) (hN : N < 1000) (hi : gs (n0 + kc) = i) (h71 : i < 71) (h1 : kc + 1 ≤ KC) (h2 : ks + N ≤ KS) (k : G X ini own cc nL d Rt KC KS n0 (pc + 3) ls (.ref i :: st) (hu h i (oR t N (fun _ => none))) (kc + 1) (ks + N)) : G X ini own cc nL d Rt KC KS n0 pc ls (.int (nI N) :: st) h kc ks := by
  subst hi
  intro p l e R s m args below meth c Z C0 hR H locs la hl hP hS
  obtain ⟨hx, hb, hml, hown, hts, hK, ad, hst, hrm, hnn, hsz, hin, hKC, hKS⟩ := id C0
  refine va_newq (N' := N) hx hb hown (hts _ hcl) (hao s hnn) hK hP wG_D hS (fun q hq => by show jad X 0 ≤ q; omega) (nI_pos (by omega)) (nI_clamp (by omega)) (by omega) (by omega) (by omega) hd (fun q cA H1 hK1 hP1 hD1 hS1 => ?_)
  intro T1 hT1 XX
  have hup := XX.heapSize
  rw [hT1] at hup
  have hq := g_new (X := X) hsz rfl hup hP1 hD1
  subst hq
  have hcA : cA = jK X t := by
    obtain ⟨-, -, -, -, -, z1⟩ := (hK1.2 6 (cA, .object C) rfl).2
    obtain ⟨-, -, -, -, -, z2⟩ := (hK.2 t (jK X t, .object C) ht).2
    exact Option.some.inj (z1.symm.trans z2)
  subst hcA
  have hw : wG X (n0 + kc) h ++ [(jad X 0 + (n0 + kc), .inl (jK X t, N, .inr (.inr (.inr (.inr (fun _ => none))))))] = wG X (n0 + kc + 1) (hu h (gs (n0 + kc)) (oR t N (fun _ => none))) := wG_push (c := oR t N (fun _ => none))
  rw [hw] at hP1
  have ea : jad X (gs (n0 + kc)) = jad X 0 + (n0 + kc) := by rw [ad _ h71, gp_gs]
  have kk := k p l e R s m args below meth c Z C0 hR H1 locs la hl hP1 hS1 T1 hT1 XX
  have e2 : ((Value.ref (gs (n0 + kc)) :: st).map (mv X)) = Value.ref (jad X 0 + (n0 + kc)) :: st.map (mv X) := by rw [List.map_cons, ← ea]; rfl
  rw [e2] at kk
  exact kk
theorem G_obj {idx : Nat} {a : Nat} (hd : decode cc pc = .ok (.invokespecial idx, 3)) (hl0 : Cond.methodLink own idx Lib.objectInit ∈ jtb) (hd0 : 0 < d) (hw : (st.map fun v => v.category).sum ≤ 8) (k : G X ini own cc nL d Rt KC KS n0 (pc + 3) ls st h kc ks) : G X ini own cc nL d Rt KC KS n0 pc ls (.ref a :: st) h kc ks := by
  intro p l e R s m args below meth c Z C0 hR H locs la hl hP hS
  obtain ⟨hx, hb, hml, hown, hts, hK, ad, hst, hrm, hnn, hsz, hin, hKC, hKS⟩ := id C0
  refine W.objInit hx hb hown (hts _ hl0) (hts _ gob_i) (hts _ gob_c) rfl (hl.1.trans hml.symm) (a := jad X a) (rest := st.map (mv X)) rfl hd (by omega) ?_ (k p l e R s m args below meth c Z C0 hR H locs la hl hP hS)
  have := lv_room (m := m) (pc := pc) (ls := la) (rest := (Value.ref a :: st).map (mv X)) (st := st.map (mv X)) (by rw [mv_cats]; exact hw)
  omega
end GL
