/-! THE CLAIM OUT OF ONE WALK OF THE LAW'S BODY. Your part is whole_start (and what it stands on); all else here is the same for every law, but numbers. -/
def R_law : String := "CutListDeskLaw"
def lw_P (b : Addr) (xs : List Int32) (args : Array Value) (s : State) : Prop := args = #[.ref b] ∧ s.IntsAt b xs ∧ xs.length ≤ 3584 ∧ (Jvm.Cond.and given_1 narrow_1).before args s = true
def lw_Q (_ : Array Value) (s : State) (o : Outcome) (t : State) : Prop := o = .returned (some (.int 1)) ∧ Framed s o t [] 600000 7302250
def lw_Z (below : List Frame) (a : Array Value) (s : State) : State → Prop := fun t => ∃ o, t.status = .running ∧ Ended t below o ∧ lw_Q a s o t
/-- the law's own end, with 1 on the stack, nothing written that was there before, its room as the claim has it -/
theorem lw_ret {p : Program} {l : Launch} {e : Env} {s : State} {m : MethodId} {below : List Frame} {meth : Method} {c : Code} {b : Nat} (hx : p.tables.exec = Jvm.exec) (hb : c.code = code) (hr : meth.sig.returnType = ret) (hlocks : meth.locks = false) {pc : Nat} {H : Heap} {ls : Array Slot} (hdg : decode code pc = .ok (.ireturn, 1)) : W p l e room_1 s m #[Value.ref b] below meth c H [] 600000 7302250 (lw_Z below #[Value.ref b] s) (F0 m pc ls [.int 1]) := by
  intro T hT X
  obtain ⟨fs, hret, hrun, hended, hW, hframe⟩ := X.leave (v := some (.int 1)) (hlocks := hlocks) (fun h => by rw [hr] at h; cases h)
  have hmeth' : T.vm.method? m = some meth := X.method'
  refine ⟨T.setFrames fs, ?_, .returned (some (.int 1)), hrun, hended, rfl, ⟨_, rfl⟩, hW, hframe⟩
  jvm_step X.here [X.here.top, hx, hb, hdg, hmeth', hr, ret, narrow_b1]
  (try refine ⟨rfl, ?_⟩); (try refine ⟨rfl, ?_⟩)
  first | (intro acts; rw [hret _ acts rfl rfl rfl]) | rw [hret _ _ rfl rfl rfl]
  exact Steps.refl _
/-- what holds at the law's entry: the machine, the code, the tables' words (any of lw_tbl by 'hts w (by decide +kernel)'), the script of L ints xs at the cell b, what the Statement gives of the start (any of its parts by flat_of_before) -/
def lw_At (p : Program) (s : State) (m : MethodId) (meth : Method) (c : Code) (b L : Nat) (xs : Nat → Int32) : Prop :=
  p.tables.exec = Jvm.exec ∧ c.code = code ∧ meth.sig.returnType = ret ∧ c.maxLocals = 4 ∧ s.vm.findClass R_law = some m.cls ∧ (∀ w ∈ lw_tbl, w.before #[Value.ref b] s = true) ∧ va_X b L xs s s.heap ∧ b < s.heap.size ∧ meth.locks = false ∧ (Jvm.Cond.and given_1 narrow_1).before #[Value.ref b] s = true
/-! what holds at the entry -/
theorem k_arr {s : State} {args : Array Value} {ty : FieldType} (h : (Cond.arrayClass ty).before args s = true) : ∃ cA : ClassId, ArrOfT s cA ty ∧ s.vm.findClass ("[" ++ ty.toString) = some cA := by
  obtain ⟨cA, kA, comp, h1, h2, h3⟩ := Cond.arrayClass_spec h
  exact ⟨cA, fun n z => ⟨(fun k h => by cases h), kA, h2, comp, h3⟩, h1⟩
theorem k_ob {s : State} {C : String} (h : va_AO C s) : ∃ cA : ClassId, ArrOfT s cA (.object C) ∧ va_RA s cA (.object C) := by
  obtain ⟨comp, cA, kA, h1, h2, h3, h4, h5⟩ := Cond.arrayOver_spec h
  exact ⟨cA, fun n z => ⟨(fun k h => by cases h), kA, h3, comp, h4⟩, kA, comp, h3, h4, h1, h5⟩
def mkAd (n t0 t1 t2 b : Nat) (i : Nat) : Nat := if i < 71 then n + gp i else if i = 1000 then t0 else if i = 1001 then t1 else if i = 1002 then t2 else b
theorem x_nest {s : State} {b : Nat} (hts : ∀ w ∈ lw_tbl, w.before #[Value.ref b] s = true) : gnest s ∧ jnest s := ⟨⟨va_Nw.of rfl (hts (.methodLinkNest RX6 46 yX3_init "CutListDesk") (List.mem_of_getElem? (i := 117) (by decide +kernel))), va_Nw.of rfl (hts (.methodLinkNest RX1 17 yX2_init "CutListDesk") (List.mem_of_getElem? (i := 137) (by decide +kernel))), va_Nw.of rfl (hts (.methodLinkNest RX6 52 yX4_init "CutListDesk") (List.mem_of_getElem? (i := 180) (by decide +kernel))), va_AO.of (hts (.arrayOver (.object RX1)) (List.mem_of_getElem? (i := 81) (by decide +kernel))), va_AO.of (hts (.arrayOver (.object RX2)) (List.mem_of_getElem? (i := 135) (by decide +kernel))), va_AO.of (hts (.arrayOver (.object RX4)) (List.mem_of_getElem? (i := 85) (by decide +kernel))), va_AO.of (hts (.arrayOver (.object RX5)) (List.mem_of_getElem? (i := 87) (by decide +kernel)))⟩, ⟨va_Nw.of rfl (hts (.methodLinkNest RX4 32 yX6_isBelow "CutListDesk") (List.mem_of_getElem? (i := 304) (by decide +kernel))), va_Nw.of rfl (hts (.methodLinkNest RX3 51 yX6_isBelow "CutListDesk") (List.mem_of_getElem? (i := 503) (by decide +kernel)))⟩⟩
theorem x_K {s : State} {b : Nat} (hts : ∀ w ∈ lw_tbl, w.before #[Value.ref b] s = true) (hj : ∀ w ∈ jtb, w.before #[Value.ref b] s = true) (hg : gnest s) : ∃ (dC : Nat → ClassId) (dI : Nat → Nat → Nat) (dK : Nat → ClassId), va_K (dC, dI) jcl [(dK 0, .int), (dK 1, .boolean), (dK 2, .object RX2), (dK 3, .object RX1), (dK 4, .object RX4), (dK 5, .object RX5)] s := by
  obtain ⟨c0, i0, n0⟩ := u_known (C := RX1) (T := TX1) (N := 2) (n := 2) hj in_X1 (hts (.instantiable RX1 2) (List.mem_of_getElem? (i := 129) (by decide +kernel)))
  obtain ⟨c1, i1, n1⟩ := u_known (C := RX2) (T := TX2) (N := 5) (n := 5) hj in_X2 (hts (.instantiable RX2 5) (List.mem_of_getElem? (i := 136) (by decide +kernel)))
  obtain ⟨c2, i2, n2⟩ := u_known (C := RX3) (T := TX3) (N := 2) (n := 2) hj in_X3 (hts (.instantiable RX3 2) (List.mem_of_getElem? (i := 116) (by decide +kernel)))
  obtain ⟨c3, i3, n3⟩ := u_known (C := RX4) (T := TX4) (N := 4) (n := 4) hj in_X4 (hts (.instantiable RX4 4) (List.mem_of_getElem? (i := 179) (by decide +kernel)))
  obtain ⟨c4, i4, n4⟩ := u_known (C := RX5) (T := TX5) (N := 5) (n := 5) hj in_X5 (hts (.instantiable RX5 5) (List.mem_of_getElem? (i := 88) (by decide +kernel)))
  obtain ⟨c5, i5, n5⟩ := u_known (C := RX6) (T := TX6) (N := 8) (n := 8) hj in_X6 (hts (.instantiable RX6 8) (List.mem_of_getElem? (i := 73) (by decide +kernel)))
  obtain ⟨c6, i6, n6⟩ := u_known (C := RX7) (T := TX7) (N := 21) (n := 21) hj in_X7 (hts (.instantiable RX7 21) (List.mem_of_getElem? (i := 629) (by decide +kernel)))
  obtain ⟨a0, u0, v0⟩ := k_arr (hj _ gac_int)
  obtain ⟨a1, u1, v1⟩ := k_arr (hj _ gac_boolean)
  obtain ⟨a2, u2, v2⟩ := k_ob hg.2.2.2.2.1
  obtain ⟨a3, u3, v3⟩ := k_ob hg.2.2.2.1
  obtain ⟨a4, u4, v4⟩ := k_ob hg.2.2.2.2.2.1
  obtain ⟨a5, u5, v5⟩ := k_ob hg.2.2.2.2.2.2
  refine ⟨fun k => if k = 0 then c0 else if k = 1 then c1 else if k = 2 then c2 else if k = 3 then c3 else if k = 4 then c4 else if k = 5 then c5 else c6, fun k => if k = 0 then i0 else if k = 1 then i1 else if k = 2 then i2 else if k = 3 then i3 else if k = 4 then i4 else if k = 5 then i5 else i6, fun k => if k = 0 then a0 else if k = 1 then a1 else if k = 2 then a2 else if k = 3 then a3 else if k = 4 then a4 else a5, ?_, ?_⟩
  · intro k q hq
    match k, hq with
    | 0, hq => cases hq; exact n0
    | 1, hq => cases hq; exact n1
    | 2, hq => cases hq; exact n2
    | 3, hq => cases hq; exact n3
    | 4, hq => cases hq; exact n4
    | 5, hq => cases hq; exact n5
    | 6, hq => cases hq; exact n6
    | k + 7, hq => simp [jcl] at hq
  · intro k q hq
    match k, hq with
    | 0, hq => cases hq; exact ⟨u0, v0⟩
    | 1, hq => cases hq; exact ⟨u1, v1⟩
    | 2, hq => cases hq; exact ⟨u2, v2⟩
    | 3, hq => cases hq; exact ⟨u3, v3⟩
    | 4, hq => cases hq; exact ⟨u4, v4⟩
    | 5, hq => cases hq; exact ⟨u5, v5⟩
    | k + 6, hq => simp at hq
theorem x_s0 {s : State} {b : Nat} (hts : ∀ w ∈ lw_tbl, w.before #[Value.ref b] s = true) (hj : ∀ w ∈ jtb, w.before #[Value.ref b] s = true) (hgv : (Jvm.Cond.and given_1 narrow_1).before #[Value.ref b] s = true) : ∃ t : Nat, va_Z RX6 "HIGHEST_SETTING" "[I" (.ref t) (fun q => s.heap.size ≤ q) s s.heap ∧ va_T .int t 3 (fun j => .int (jt0 j)) (fun q => s.heap.size ≤ q) s s.heap := by
  have hs := flat_of_before _ hgv
  have hA : ∀ a : Nat, a < s.heap.size → ¬ (fun q : Nat => s.heap.size ≤ q) a := fun a ha => Nat.not_le.mpr ha
  obtain ⟨t, ht, hT⟩ := va_Tof (args := #[Value.ref b]) (s := s) (tm := .static "CutListDesk" "HIGHEST_SETTING" "[I") (ty := .int) (N := 3) (f := fun j => .int (jt0 j)) (A := fun q => s.heap.size ≤ q) (by decide) (hs (.arrayOf (.static "CutListDesk" "HIGHEST_SETTING" "[I") .int) (by decide +kernel)) (va_eqt (hs (.eq (.length (.static "CutListDesk" "HIGHEST_SETTING" "[I")) (.int (Int32.ofNat 3))) (by decide +kernel))) (fun j hj => by
    rcases (show j = 0 ∨ j = 1 ∨ j = 2 by omega) with rfl | rfl | rfl
    · exact va_eqt (z := jt0 0) (hs (.eq (.elem (.static "CutListDesk" "HIGHEST_SETTING" "[I") (.int (Int32.ofNat 0))) (.int (jt0 0))) (by decide +kernel))
    · exact va_eqt (z := jt0 1) (hs (.eq (.elem (.static "CutListDesk" "HIGHEST_SETTING" "[I") (.int (Int32.ofNat 1))) (.int (jt0 1))) (by decide +kernel))
    · exact va_eqt (z := jt0 2) (hs (.eq (.elem (.static "CutListDesk" "HIGHEST_SETTING" "[I") (.int (Int32.ofNat 2))) (.int (jt0 2))) (by decide +kernel))) hA
  exact ⟨t, va_Zof (hts (.laysStatic RX6 "HIGHEST_SETTING" "[I") (List.mem_of_getElem? (i := 83) (by decide +kernel))) (hj _ jmX6_edit.2.2.1) ht hA, hT⟩
theorem x_s1 {s : State} {b : Nat} (hts : ∀ w ∈ lw_tbl, w.before #[Value.ref b] s = true) (hj : ∀ w ∈ jtb, w.before #[Value.ref b] s = true) (hgv : (Jvm.Cond.and given_1 narrow_1).before #[Value.ref b] s = true) : ∃ t : Nat, va_Z RX6 "LEAST_PART" "[I" (.ref t) (fun q => s.heap.size ≤ q) s s.heap ∧ va_T .int t 4 (fun j => .int (jt1 j)) (fun q => s.heap.size ≤ q) s s.heap := by
  have hs := flat_of_before _ hgv
  have hA : ∀ a : Nat, a < s.heap.size → ¬ (fun q : Nat => s.heap.size ≤ q) a := fun a ha => Nat.not_le.mpr ha
  obtain ⟨t, ht, hT⟩ := va_Tof (args := #[Value.ref b]) (s := s) (tm := .static "CutListDesk" "LEAST_PART" "[I") (ty := .int) (N := 4) (f := fun j => .int (jt1 j)) (A := fun q => s.heap.size ≤ q) (by decide) (hs (.arrayOf (.static "CutListDesk" "LEAST_PART" "[I") .int) (by decide +kernel)) (va_eqt (hs (.eq (.length (.static "CutListDesk" "LEAST_PART" "[I")) (.int (Int32.ofNat 4))) (by decide +kernel))) (fun j hj => by
    rcases (show j = 0 ∨ j = 1 ∨ j = 2 ∨ j = 3 by omega) with rfl | rfl | rfl | rfl
    · exact va_eqt (z := jt1 0) (hs (.eq (.elem (.static "CutListDesk" "LEAST_PART" "[I") (.int (Int32.ofNat 0))) (.int (jt1 0))) (by decide +kernel))
    · exact va_eqt (z := jt1 1) (hs (.eq (.elem (.static "CutListDesk" "LEAST_PART" "[I") (.int (Int32.ofNat 1))) (.int (jt1 1))) (by decide +kernel))
    · exact va_eqt (z := jt1 2) (hs (.eq (.elem (.static "CutListDesk" "LEAST_PART" "[I") (.int (Int32.ofNat 2))) (.int (jt1 2))) (by decide +kernel))
    · exact va_eqt (z := jt1 3) (hs (.eq (.elem (.static "CutListDesk" "LEAST_PART" "[I") (.int (Int32.ofNat 3))) (.int (jt1 3))) (by decide +kernel))) hA
  exact ⟨t, va_Zof (hts (.laysStatic RX6 "LEAST_PART" "[I") (List.mem_of_getElem? (i := 246) (by decide +kernel))) (hj _ jmX6_edit.2.2.1) ht hA, hT⟩
theorem x_s2 {s : State} {b : Nat} (hts : ∀ w ∈ lw_tbl, w.before #[Value.ref b] s = true) (hj : ∀ w ∈ jtb, w.before #[Value.ref b] s = true) (hgv : (Jvm.Cond.and given_1 narrow_1).before #[Value.ref b] s = true) : ∃ t : Nat, va_Z RX6 "HIGHEST_PART" "[I" (.ref t) (fun q => s.heap.size ≤ q) s s.heap ∧ va_T .int t 4 (fun j => .int (jt2 j)) (fun q => s.heap.size ≤ q) s s.heap := by
  have hs := flat_of_before _ hgv
  have hA : ∀ a : Nat, a < s.heap.size → ¬ (fun q : Nat => s.heap.size ≤ q) a := fun a ha => Nat.not_le.mpr ha
  obtain ⟨t, ht, hT⟩ := va_Tof (args := #[Value.ref b]) (s := s) (tm := .static "CutListDesk" "HIGHEST_PART" "[I") (ty := .int) (N := 4) (f := fun j => .int (jt2 j)) (A := fun q => s.heap.size ≤ q) (by decide) (hs (.arrayOf (.static "CutListDesk" "HIGHEST_PART" "[I") .int) (by decide +kernel)) (va_eqt (hs (.eq (.length (.static "CutListDesk" "HIGHEST_PART" "[I")) (.int (Int32.ofNat 4))) (by decide +kernel))) (fun j hj => by
    rcases (show j = 0 ∨ j = 1 ∨ j = 2 ∨ j = 3 by omega) with rfl | rfl | rfl | rfl
    · exact va_eqt (z := jt2 0) (hs (.eq (.elem (.static "CutListDesk" "HIGHEST_PART" "[I") (.int (Int32.ofNat 0))) (.int (jt2 0))) (by decide +kernel))
    · exact va_eqt (z := jt2 1) (hs (.eq (.elem (.static "CutListDesk" "HIGHEST_PART" "[I") (.int (Int32.ofNat 1))) (.int (jt2 1))) (by decide +kernel))
    · exact va_eqt (z := jt2 2) (hs (.eq (.elem (.static "CutListDesk" "HIGHEST_PART" "[I") (.int (Int32.ofNat 2))) (.int (jt2 2))) (by decide +kernel))
    · exact va_eqt (z := jt2 3) (hs (.eq (.elem (.static "CutListDesk" "HIGHEST_PART" "[I") (.int (Int32.ofNat 3))) (.int (jt2 3))) (by decide +kernel))) hA
  exact ⟨t, va_Zof (hts (.laysStatic RX6 "HIGHEST_PART" "[I") (List.mem_of_getElem? (i := 244) (by decide +kernel))) (hj _ jmX6_edit.2.2.1) ht hA, hT⟩
theorem x_start {s : State} {b L : Nat} {xs : Nat → Int32} (hts : ∀ w ∈ lw_tbl, w.before #[Value.ref b] s = true) (hj : ∀ w ∈ jtb, w.before #[Value.ref b] s = true) (hX : va_X b L xs s s.heap) (hbl : b < s.heap.size) (hgv : (Jvm.Cond.and given_1 narrow_1).before #[Value.ref b] s = true) : ∃ X : Cx, jL X = L ∧ jad X 0 = s.heap.size ∧ jad X 2000 = b ∧ gAd X ∧ va_K (jD X) jcl (jty X) s ∧ gst X s s.heap ∧ jst X s s.heap := by
  obtain ⟨hg, hn⟩ := x_nest hts
  obtain ⟨dC, dI, dK, hK⟩ := x_K hts hj hg
  obtain ⟨t0, z0, y0⟩ := x_s0 hts hj hgv
  obtain ⟨t1, z1, y1⟩ := x_s1 hts hj hgv
  obtain ⟨t2, z2, y2⟩ := x_s2 hts hj hgv
  have e0 : mkAd s.heap.size t0 t1 t2 b 0 = s.heap.size := rfl
  have ad : ∀ i, i < 71 → mkAd s.heap.size t0 t1 t2 b i = s.heap.size + gp i := fun i hi => if_pos hi
  have hA : ∀ q, gA (dC, dI, dK, mkAd s.heap.size t0 t1 t2 b, L, xs) q → s.heap.size ≤ q := fun q hq => hq
  have hS : ∀ q, jS (dC, dI, dK, mkAd s.heap.size t0 t1 t2 b, L, xs) q → s.heap.size ≤ q := by
    rintro q ⟨i, hi, rfl⟩
    show s.heap.size ≤ mkAd s.heap.size t0 t1 t2 b i
    rw [ad i hi]
    exact Nat.le_add_right _ _
  exact ⟨(dC, dI, dK, mkAd s.heap.size t0 t1 t2 b, L, xs), rfl, e0, rfl, fun i hi => ad i hi, hK, ⟨z0.narrow hA, y0.narrow hA⟩, ⟨z0.narrow hS, y0.narrow hS⟩, ⟨z1.narrow hS, y1.narrow hS⟩, ⟨z2.narrow hS, y2.narrow hS⟩, hX, hbl, fun z => Nat.not_le.mpr hbl (hS b z)⟩
/-! the walk of the entry: both objects are made -/
def lawRt (X : Cx) : gRT := fun p l e R s m args below meth c KC KS Z => ∀ (H : Heap) (locs : List Loc) (la : Array Slot) (h : HF), DeskAt h D0 → moAt h D0 → lv_has la 4 (jls X 0 [some (.ref 2000), some (.ref 0), some (.ref 51), some (.int (nI 0))]) → va_P (jD X) jcl (wG X 71 h) H → va_S (gA X) s.heap H locs → W p l e R s m args below meth c H locs 71 1032 Z (F0 m 18 la [])
theorem G_law18 {X : Cx} {h : HF} (pd : DeskAt h D0) (pm : moAt h D0) : G X False RL cL_law 4 8 (lawRt X) 71 1032 0 18 [some (.ref 2000), some (.ref 0), some (.ref 51), some (.int (nI 0))] [] h 71 1032 := fun p l e R s m args below meth c Z C0 hR H locs la hl hP hS => hR H locs la h pd pm hl hP hS
theorem G_law0 {X : Cx} {h : HF} : G X False RL cL_law 4 8 (lawRt X) 71 1032 0 0 [some (.ref 2000), none, none, none] [] h 0 0 := by
  refine G_new (i := 0) (fs := [.null, .null, .null, .null, .null, .null, .null, .int 0]) dL_law_0 gnw_L_7 (fun j hj => by rcases (show j = 0 ∨ j = 1 ∨ j = 2 ∨ j = 3 ∨ j = 4 ∨ j = 5 ∨ j = 6 ∨ j = 7 by omega) with rfl | rfl | rfl | rfl | rfl | rfl | rfl | rfl <;> rfl) (by decide) (by omega) (by omega) (by omega) ?_
  refine G_dup dL_law_3 rfl ?_
  refine G_ctor (a := 0) (As := []) dL_law_4 jmX6_init rfl gmi_L_9 rfl rfl (Nat.le_of_ble_eq_true rfl) (by decide) (g_desk (hAt_s (show _ < 71 by decide))) (by omega) (by omega) (fun h1 q1 => ?_)
  refine G_astore_1 dL_law_7 (Nat.le_of_ble_eq_true rfl) rfl ?_
  refine G_new (i := 51) (fs := [.null, .null, .null, .null, .null, .null, .null, .null, .null, .null, .null, .null, .null, .null, .int 0, .null, .null, .null, .null, .null, .int 0]) dL_law_8 gnw_L_10 (fun j hj => by rcases (show j = 0 ∨ j = 1 ∨ j = 2 ∨ j = 3 ∨ j = 4 ∨ j = 5 ∨ j = 6 ∨ j = 7 ∨ j = 8 ∨ j = 9 ∨ j = 10 ∨ j = 11 ∨ j = 12 ∨ j = 13 ∨ j = 14 ∨ j = 15 ∨ j = 16 ∨ j = 17 ∨ j = 18 ∨ j = 19 ∨ j = 20 by omega) with rfl | rfl | rfl | rfl | rfl | rfl | rfl | rfl | rfl | rfl | rfl | rfl | rfl | rfl | rfl | rfl | rfl | rfl | rfl | rfl | rfl <;> rfl) (by decide) (by omega) (by omega) (by omega) ?_
  refine G_dup dL_law_11 rfl ?_
  refine G_ctor (a := 51) (As := []) dL_law_12 jmX7_init rfl gmi_L_12 rfl rfl (Nat.le_of_ble_eq_true rfl) (by decide) (g_model (hAt_s (show _ < 71 by decide))) (by omega) (by omega) (fun h2 q2 => ?_)
  refine G_astore_2 dL_law_15 (Nat.le_of_ble_eq_true rfl) rfl ?_
  refine G_iconst (v := nI 0) dL_law_16 (by decide) ?_
  refine G_istore_3 dL_law_17 (Nat.le_of_ble_eq_true rfl) rfl ?_
  have pd2 : DeskAt h2 D0 := q1.off (fun b hb => (q2.2 b (Or.inl hb)).trans (hu_ne (by omega)))
  exact G_law18 pd2 q2.1
theorem wl_of {X : Cx} {h : HF} {H : Heap} (ad : gAd X) (hP : va_P (jD X) jcl (wG X 71 h) H) : va_P (jD X) jcl (wl X h) H := by
  intro k q hq
  by_cases hk : k < 71
  · rw [wl_at hk] at hq
    have hg : gp k < 71 := by
      unfold gp
      split
      · omega
      · split <;> omega
    exact hP (gp k) q ((wG_at ad hk hg).trans hq)
  · rw [wl_none hk] at hq
    cases hq
theorem gp_inj {i j : Nat} (h : gp i = gp j) : i = j := by
  have := congrArg gs h
  rw [gs_gp, gs_gp] at this
  exact this
set_option maxHeartbeats 4000000 in
/-- THE LAW, from its entry -/
theorem whole_start {p : Program} {e : Env} {s : State} {m : MethodId} {below : List Frame} {meth : Method} {c : Code} (l : Launch) (hflags : l.flags = flags0) {b L : Nat} {xs : Nat → Int32} (hL : L ≤ 3584) (C0 : lw_At p s m meth c b L xs) : W p l e room_1 s m #[Value.ref b] below meth c s.heap [] 0 0 (lw_Z below #[Value.ref b] s) (entryFrame m ([Value.ref b] : List Value).toArray 4) := by
  obtain ⟨hx, hb, hr, hml, hown, hts, hX, hbl, hlocks, hgv⟩ := id C0
  have hj : ∀ w ∈ jtb, w.before #[Value.ref b] s = true := fun w hw => hts w (List.mem_filter.mp hw).1
  obtain ⟨hg, hn⟩ := x_nest hts
  obtain ⟨X, eL, e0, e2, ad, hK, hst, hjs⟩ := x_start hts hj hX hbl hgv
  have hown : s.vm.findClass RL = some m.cls := hown
  have hl := lv_entry ([.ref b]) (n := 4) (Nat.le_of_ble_eq_true rfl)
  rw [lg_entry_eq]
  generalize (lg_sl ([.ref b]) ++ List.replicate (4 - (lg_sl ([.ref b])).length) Slot.unset).toArray = la at hl ⊢
  have hl : lv_has la 4 [(0, .ref b)] := hl
  have hl : lv_has la 4 (jls X 0 [some (.ref 2000), none, none, none]) := by
    show lv_has la 4 [(0, .ref (jad X 2000))]
    rw [e2]
    exact hl
  have hi : jinj X := by
    intro i j h1 h2 hij
    rw [ad i h1, ad j h2] at hij
    exact gp_inj (by omega)
  have hjS : ∀ q, jS X q → s.heap.size ≤ q := by
    rintro q ⟨i, h1, rfl⟩
    rw [ad i h1, e0]
    exact Nat.le_add_right _ _
  have hP0 : va_P (jD X) jcl (wG X (0 + 0) (fun _ => oA 0 0 (fun _ => 0))) s.heap := fun k q h => by simp [wG] at h
  refine G_law0 (X := X) (h := fun _ => oA 0 0 (fun _ => 0)) p l e room_1 s m #[Value.ref b] below meth c _ ⟨hx, hb, hml, hown, hj, hK, ad, hst, ⟨Nat.le_of_ble_eq_true rfl, Nat.le_of_ble_eq_true rfl⟩, hg, by rw [e0]; rfl, fun z => z.elim, Nat.le_of_ble_eq_true rfl, Nat.le_of_ble_eq_true rfl⟩ ?_ s.heap [] la hl hP0 va_S.rf
  intro H locs la h pd pm hla hP hS
  refine va_forget (fun q hq => ?_) ?_
  · have := hS.2.2 q hq
    have z : jad X 0 ≤ q.base := this
    rw [e0] at z
    exact z
  have hS2 : va_S (jS X) s.heap H [] := ⟨hS.1, fun q h1 h2 => hS.2.1 q h1 (fun z => by
    have z : jad X 0 ≤ q := z
    rw [e0] at z
    omega), fun q hq => by cases hq⟩
  refine l_law (X := X) (by rw [eL]; exact hL) (jL X) 0 h D0 (Nat.zero_le _) (by omega) pd pm p l e room_1 s m #[Value.ref b] below meth c 71 1032 _ ⟨hx, hb, hml, hown, hj, hK, hi, hjs, ⟨Nat.le_of_ble_eq_true rfl, Nat.le_of_ble_eq_true rfl⟩, Nat.le_of_ble_eq_true rfl, Nat.le_of_ble_eq_true rfl, hn⟩ ?_ H [] la hla (wl_of ad hP) hS2
  intro H locs la pc r h hQ hok hP hS
  have hQ : r = some (.int 1) := hQ
  subst hQ
  refine va_forget (fun q hq => hjS _ (hS.2.2 q hq)) ?_
  refine W.widen (k := 600000) (n := 7302250) (Nat.le_of_ble_eq_true rfl) (Nat.le_of_ble_eq_true rfl) ?_
  exact lw_ret hx hb hr hlocks hok.1
