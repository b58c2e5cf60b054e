section GC
variable {X : Cx} {ini : Prop} {own : String} {cc : ByteArray} {nL d : Nat} {Rt : gRT} {KC KS n0 : Nat} {pc : Nat} {ls : List (Option Value)} {st : List Value} {h : HF} {kc ks : Nat}
theorem g_size {s : State} {H : Heap} (hs : s.heap.size = jad X 0 + n0) (hup : H.size ≤ s.heap.size + kc) (hP : va_P (jD X) jcl (wG X (n0 + kc) h) H) (hlo : s.heap.size ≤ H.size) : H.size = jad X 0 + (n0 + kc) := by
  by_cases z : kc = 0
  · omega
  · have h1 : jad X 0 + (n0 + kc - 1) < H.size := (hP (n0 + kc - 1) _ (wG_get (by omega))).lt
    omega
theorem gblind {a : List Value} {n : Nat} : FrameBlind (va_Pc (a.map (mv X)) (gW X n h)) := fun a U g mk q =>
  ⟨q.1, q.2.1, q.2.2.1, va_K.moved (u := U) (U := U.calling g mk a) (Vm.Alike.refl U.vm) q.2.2.2.1, q.2.2.2.2.1, gst.moved (u := U) (U := U.calling g mk a) (Vm.Alike.refl U.vm) q.2.2.2.2.2.1, ⟨va_Nw.same rfl (u := U) rfl q.2.2.2.2.2.2.1, va_Nw.same rfl (u := U) rfl q.2.2.2.2.2.2.2.1, va_Nw.same rfl (u := U) rfl q.2.2.2.2.2.2.2.2.1, va_AO.moved (u := U) (U := U.calling g mk a) (Vm.Alike.refl U.vm) q.2.2.2.2.2.2.2.2.2.1, va_AO.moved (u := U) (U := U.calling g mk a) (Vm.Alike.refl U.vm) q.2.2.2.2.2.2.2.2.2.2.1, va_AO.moved (u := U) (U := U.calling g mk a) (Vm.Alike.refl U.vm) q.2.2.2.2.2.2.2.2.2.2.2.1, va_AO.moved (u := U) (U := U.calling g mk a) (Vm.Alike.refl U.vm) q.2.2.2.2.2.2.2.2.2.2.2.2⟩⟩
theorem gpre {s : State} {H : Heap} {locs : List Loc} {n : Nat} (hz : H.size = jad X 0 + n) (hP : va_P (jD X) jcl (wG X n h) H) (hK : va_K (jD X) jcl (jty X) s) (ad : gAd X) (hst : gst X s s.heap) (hnn : gnest s) (hS : va_S (gA X) s.heap H locs) (U : State) (hU : U.heap = H) (hW : s.WarmedH U.vm) : gW X n h U := by
  refine ⟨by rw [hU]; exact hz, by rw [hU]; exact hP, va_K.moved hW.alike hK, ad, ?_, hnn.warm hW⟩
  rw [hU]
  exact (hst.kept (fun a h1 h2 => hS.2.1 a h1 h2)).moved hW.alike
/-- behind a call that makes mc cells -/
theorem gcall {Qc : HF → Prop} {p : Program} {l : Launch} {e : Env} {R : Room} {s : State} {m : MethodId} {args : Array Value} {below : List Frame} {meth : Method} {c : Code} {Z : State → Prop} {H : Heap} {locs : List Loc} {la : Array Slot} {stk : List Value} {mc ms : Nat}
    (C0 : gCtx X ini own cc nL d p R s m args meth c KC KS n0) (hR : Rt p l e R s m args below meth c KC KS Z) (hla : lv_has la nL (jls X 0 ls)) (hS : va_S (gA X) s.heap H locs)
    (run : va_Run p l e R s m args below meth c H locs kc ks mc ms (F0 m pc la stk) (st.map (mv X)) (fun st oc t => (oc = .returned none ∧ ∃ h' : HF, Qc h' ∧ va_P (jD X) jcl (wG X (n0 + kc + mc) h') t.heap) ∧ va_F (gA X) st t) (gA X))
    (k : ∀ h' : HF, Qc h' → G X ini own cc nL d Rt KC KS n0 (pc + 3) ls st h' (kc + mc) (ks + ms)) : W p l e R s m args below meth c H locs kc ks Z (F0 m pc la stk) := by
  intro T hT XX
  obtain ⟨v, st₀, t, T', L, h0, X', hL, e1, e2, ⟨⟨hv, h', hq, hb⟩, hz, hk⟩, go⟩ := run T hT XX
  cases hv
  rw [h0] at hz hk
  have hS' : va_S (gA X) s.heap T'.heap (locs ++ L) := by
    refine ⟨Nat.le_trans hS.1 (by rw [e1]; exact hz), fun q h1 h2 => ?_, fun q hq => ?_⟩
    · rw [e1, hk q (Nat.lt_of_lt_of_le h1 hS.1) h2]
      exact hS.2.1 q h1 h2
    · rcases List.mem_append.mp hq with z | z
      · exact hS.2.2 q z
      · exact hL q z
  obtain ⟨t2, a1, b1⟩ := k h' hq p l e R s m args below meth c Z C0 hR T'.heap (locs ++ L) la hla (by rw [e1, ← Nat.add_assoc]; exact hb) hS' T' rfl X'
  exact ⟨t2, go t2 a1, b1⟩
theorem G_ctor {idx a d' n mc ms : Nat} {M : jMI} {As stk : List Value} {Qc : HF → Prop} (hd : decode cc pc = .ok (.invokespecial idx, 3)) (hM : jM M) (hret : M.2.2.2 = none) (hl : gMI own idx M n) (hn : As.length = n) (hs : stk = As.reverse ++ .ref a :: st) (hw : (st.map fun v => v.category).sum ≤ 8) (hdd : d' < d) (ct : Gt X M d' (.ref a :: As) (n0 + kc) h mc ms Qc) (h1 : kc + mc ≤ KC) (h2 : ks + ms ≤ KS)
    (k : ∀ h' : HF, Qc h' → G X ini own cc nL d Rt KC KS n0 (pc + 3) ls st h' (kc + mc) (ks + ms)) : G X ini own cc nL d Rt KC KS n0 pc ls stk h kc ks := by
  intro p l e R s m args below meth c Z C0 hR H locs la hla hP hS
  subst hs
  obtain ⟨hx, hb, hml, hown, hts, hK, ad, hst, hrm, hnn, hsz, hin, hKC, hKS⟩ := id C0
  obtain ⟨l1, l2, l3, l4⟩ := hl
  have hMM := hM
  obtain ⟨m1, m2, m3, m4, m5⟩ := hM
  intro T hT XX
  have hup := XX.heapSize
  rw [hT] at hup
  have hz := g_size hsz hup hP hS.1
  have hws : (Cond.code M.1 M.2.1 M.2.2.1 M.2.2.2 :: jtb) = Cond.code M.1 M.2.1 M.2.2.1 none :: jtb := by rw [hret]
  have cw := cwI (R := R) (rm := gr d' mc ms) (mc := mc) (ms := ms) n hts (jgoodM hMM) hws rfl rfl (hts _ m3) (hts _ l1) (hts _ l2) l3 ⟨m4.1, m4.2, l4⟩ ⟨by show d' + 1 ≤ R.frames; omega, by show 8 + (M.2.2.1 + 11) + 35 * d' ≤ R.locals; omega⟩
  have run := va_runI (b := jad X a) (As := As.map (mv X)) (rest := st.map (mv X)) (H := H) (locs := locs) (cells := kc) (slots := ks) (below := below) (meth := meth) (e := e) (g := F0 m pc la ((As.reverse ++ .ref a :: st).map (mv X))) ⟨hx, hb, hml, hown, hts⟩ (ct l) cw
    ⟨gblind, fun U hU hW => ⟨rfl, gpre hz hP hK ad hst hnn hS U hU hW⟩⟩ rfl (by rw [List.length_map]; exact hn) hla.1 (by show List.map (mv X) _ = _; rw [List.map_append, List.map_reverse]; rfl) (lv_room (by rw [mv_cats]; exact hw)) hd ⟨by omega, by omega⟩
  exact gcall C0 hR hla hS run k T hT XX
theorem G_ctorN {idx a d' n mc ms : Nat} {M : jMI} {As stk : List Value} {Qc : HF → Prop} (hd : decode cc pc = .ok (.invokespecial idx, 3)) (hM : jM M) (hret : M.2.2.2 = none) (hl : gMN own idx M n) (hn : As.length = n) (hs : stk = As.reverse ++ .ref a :: st) (hw : (st.map fun v => v.category).sum ≤ 8) (hdd : d' < d) (ct : Gt X M d' (.ref a :: As) (n0 + kc) h mc ms Qc) (h1 : kc + mc ≤ KC) (h2 : ks + ms ≤ KS)
    (k : ∀ h' : HF, Qc h' → G X ini own cc nL d Rt KC KS n0 (pc + 3) ls st h' (kc + mc) (ks + ms)) : G X ini own cc nL d Rt KC KS n0 pc ls stk h kc ks := by
  intro p l e R s m args below meth c Z C0 hR H locs la hla hP hS
  subst hs
  obtain ⟨hx, hb, hml, hown, hts, hK, ad, hst, hrm, hnn, hsz, hin, hKC, hKS⟩ := id C0
  obtain ⟨l1, l2, l3, l4⟩ := hl
  have hMM := hM
  obtain ⟨m1, m2, m3, m4, m5⟩ := hM
  intro T hT XX
  have hup := XX.heapSize
  rw [hT] at hup
  have hz := g_size hsz hup hP hS.1
  have hws : (Cond.code M.1 M.2.1 M.2.2.1 M.2.2.2 :: jtb) = Cond.code M.1 M.2.1 M.2.2.1 none :: jtb := by rw [hret]
  have cn := va_cnB (R := R) (rm := gr d' mc ms) (mc := mc) (ms := ms) n hts (jgoodM hMM) hws rfl rfl (l1 s hnn) (hts _ m3) ⟨m4.1, m4.2, l4⟩ ⟨by show d' + 1 ≤ R.frames; omega, by show 8 + (M.2.2.1 + 11) + 35 * d' ≤ R.locals; omega⟩
  have run := va_runIN (b := jad X a) (As := As.map (mv X)) (rest := st.map (mv X)) (H := H) (locs := locs) (cells := kc) (slots := ks) (below := below) (meth := meth) (e := e) (g := F0 m pc la ((As.reverse ++ .ref a :: st).map (mv X))) ⟨hx, hb, hml, hown, hts⟩ (ct l) ⟨cn, l3, hts _ l2⟩
    ⟨gblind, fun U hU hW => ⟨rfl, gpre hz hP hK ad hst hnn hS U hU hW⟩⟩ rfl (by rw [List.length_map]; exact hn) hla.1 (by show List.map (mv X) _ = _; rw [List.map_append, List.map_reverse]; rfl) (lv_room (by rw [mv_cats]; exact hw)) hd ⟨by omega, by omega⟩
  exact gcall C0 hR hla hS run k T hT XX
theorem G_stat {idx d' n : Nat} {M : jMI} {As stk : List Value} {Qc : HF → Prop} (hd : decode cc pc = .ok (.invokestatic idx, 3)) (hM : jM M) (hl : jMS own idx M n) (hn : As.length = n) (hs : stk = As.reverse ++ st) (hw : (st.map fun v => v.category).sum ≤ 8) (hdd : d' < d) (ct : Gt X M d' As (n0 + kc) h 0 0 Qc) (h1 : kc ≤ KC) (h2 : ks ≤ KS)
    (k : ∀ h' : HF, Qc h' → G X ini own cc nL d Rt KC KS n0 (pc + 3) ls st h' kc ks) : G X ini own cc nL d Rt KC KS n0 pc ls stk h kc ks := by
  intro p l e R s m args below meth c Z C0 hR H locs la hla hP hS
  subst hs
  obtain ⟨hx, hb, hml, hown, hts, hK, ad, hst, hrm, hnn, hsz, hin, hKC, hKS⟩ := id C0
  obtain ⟨l1, l2, l4⟩ := hl
  have hMM := hM
  obtain ⟨m1, m2, m3, m4, m5⟩ := hM
  intro T hT XX
  have hup := XX.heapSize
  rw [hT] at hup
  have hz := g_size hsz hup hP hS.1
  have cb : CallB R s args own idx M.1 M.2.1 M.2.2.1 M.2.2.2 (Cond.code M.1 M.2.1 M.2.2.1 M.2.2.2 :: jtb) (gr d' 0 0) 0 0 n := callB_of n hts (jgoodM hMM) rfl rfl rfl (hts _ m3) (hts _ l1) ⟨m4.1, m4.2, l4⟩ ⟨by show d' + 1 ≤ R.frames; omega, by show 8 + (M.2.2.1 + 11) + 35 * d' ≤ R.locals; omega⟩
  have run := va_runS (As := As.map (mv X)) (rest := st.map (mv X)) (H := H) (locs := locs) (cells := kc) (slots := ks) (below := below) (meth := meth) (e := e) (g := F0 m pc la ((As.reverse ++ st).map (mv X))) ⟨hx, hb, hml, hown, hts⟩ (ct l) ⟨cb, hts _ l2⟩
    ⟨gblind, fun U hU hW => ⟨rfl, gpre hz hP hK ad hst hnn hS U hU hW⟩⟩ rfl (by rw [List.length_map]; exact hn) hla.1 (by show List.map (mv X) _ = _; rw [List.map_append, List.map_reverse]) (lv_room (by rw [mv_cats]; exact hw)) hd ⟨by omega, by omega⟩
  exact gcall C0 hR hla hS run k T hT XX
end GC
/-- a contract out of the walk of the body -/
theorem Gt_of {X : Cx} {M : jMI} {d n mc ms : Nat} {args : List Value} {h : HF} {Q : HF → Prop} {ini : Prop} (hM : jM M) (hret : M.2.2.2 = none) (hin : ini → M.1.name = "<init>") (ls : List (Option Value)) (hle : (lg_sl (args.map (mv X))).length ≤ M.2.2.1) (hls : jls X 0 ls = lv_args 0 (args.map (mv X))) (hj : G X ini M.1.cls M.2.1 M.2.2.1 d (gRet X M.2.1 n Q) mc ms n 0 ls [] h 0 0) : Gt X M d args n h mc ms Q := by
  intro l
  refine Met.ofW (cc := M.2.1) (maxL := M.2.2.1) (ret := M.2.2.2) hM.1 rfl ?_
  intro p e s m args' below meth c s₁ B hml hv
  obtain ⟨rfl, hsz, hP, hK, ad, hst, hnn⟩ := hv
  have hts0 := atoms_spec (ws := Cond.code M.1 M.2.1 M.2.2.1 M.2.2.2 :: jtb) B.pre
  have hown : s.vm.findClass M.1.cls = some m.cls := findClass_of_methodNamed B.named
  have hnm : meth.name = M.1.name := (name_of_methodNamed B.named B.method).1
  have hlk := B.notSynchronized
  rw [lg_entry_eq]
  have hl := lv_entry (args.map (mv X)) (n := M.2.2.1) hle
  rw [← hls] at hl
  refine hj p l e _ s m _ below meth c _ ⟨B.exec, B.bytes, hml, hown, fun w hw => hts0 w (List.mem_cons_of_mem _ hw), hK, ad, hst, ⟨Nat.le_refl _, Nat.le_refl _⟩, hnn, hsz, fun z => hnm.trans (hin z), Nat.le_refl _, Nat.le_refl _⟩ ?_ s.heap [] _ hl hP va_S.rf
  intro H locs la pc h' hQ hdec hP' hS'
  exact W.vret B.exec B.bytes (B.returns.trans hret) (fun t ht hW => ⟨⟨rfl, h', hQ, by rw [ht]; exact hP'⟩, hS'.F ht⟩) hS'.2.2 hdec hlk
