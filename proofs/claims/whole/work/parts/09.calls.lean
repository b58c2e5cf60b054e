section JC
variable {X : Cx} {own : String} {cc : ByteArray} {nL d : Nat} {ret : Option FieldType} {Q : Option Value → HF → Prop} {pc : Nat} {ls : List (Option Value)} {st : List Value} {h : HF}
theorem jgoodM {M : jMI} (hM : jM M) : GoodIn jtb (Cond.code M.1 M.2.1 M.2.2.1 M.2.2.2 :: jtb) := by
  intro w hw
  rcases List.mem_cons.mp hw with rfl | hw
  · exact jgood _ hM.2.1
  · exact jgood _ hw
theorem jblind {a : List Value} : FrameBlind (va_Pc (a.map (mv X)) (jW X h)) := fun a U g mk q =>
  ⟨q.1, q.2.1, va_K.moved (u := U) (U := U.calling g mk a) (Vm.Alike.refl U.vm) q.2.2.1, q.2.2.2.1, jst.moved (u := U) (U := U.calling g mk a) (Vm.Alike.refl U.vm) q.2.2.2.2.1, ⟨va_Nw.same rfl (u := U) rfl q.2.2.2.2.2.1, va_Nw.same rfl (u := U) rfl q.2.2.2.2.2.2⟩⟩
theorem jpre {s : State} {H : Heap} {locs : List Loc} (hP : va_P (jD X) jcl (wl X h) H) (hK : va_K (jD X) jcl (jty X) s) (hi : jinj X) (hst : jst X s s.heap) (hnn : jnest s) (hS : va_S (jS X) s.heap H locs) (U : State) (hU : U.heap = H) (hW : s.WarmedH U.vm) : jW X h U := by
  refine ⟨by rw [hU]; exact hP, va_K.moved hW.alike hK, hi, ?_, ⟨va_Nw.warmM hW hnn.1, va_Nw.warmM hW hnn.2⟩⟩
  rw [hU]
  exact (hst.kept hS.1 (fun a h1 h2 => hS.2.1 a h1 h2)).moved hW.alike
/-- behind a call -/
theorem jcall {Qc : Option Value → HF → Prop} {p : Program} {l : Launch} {e : Env} {R : Room} {s : State} {m : MethodId} {args : Array Value} {below : List Frame} {meth : Method} {c : Code} {kc ks : Nat} {Z : State → Prop} {H : Heap} {locs : List Loc} {la : Array Slot} {stk : List Value}
    (C0 : jCtx X own cc nL d p R s m args c kc ks) (hR : jRet X cc ret Q p l e R s m args below meth c kc ks Z) (hla : lv_has la nL (jls X 0 ls)) (hS : va_S (jS X) s.heap H locs)
    (run : va_Run p l e R s m args below meth c H locs kc ks 0 0 (F0 m pc la stk) (st.map (mv X)) (fun st oc t => (∃ (r : Option Value) (h' : HF), oc = .returned (r.map (mv X)) ∧ Qc r h' ∧ va_P (jD X) jcl (wl X h') t.heap) ∧ va_F (jS X) st t) (jS X))
    (k : ∀ (r : Option Value) (h' : HF), Qc r h' → J X own cc nL d ret Q (pc + 3) ls (r.toList ++ st) h') : W p l e R s m args below meth c H locs kc ks Z (F0 m pc la stk) := by
  intro T hT XX
  obtain ⟨v, st₀, t, T', L, h0, X', hL, e1, e2, ⟨⟨r, h', hv, hq, hb⟩, hz, hk⟩, go⟩ := run T hT XX
  cases hv
  rw [h0] at hz hk
  have hS' : va_S (jS X) s.heap T'.heap (locs ++ L) := by
    refine ⟨Nat.le_trans hS.1 (by rw [e1]; exact hz), fun q h1 h2 => ?_, fun q hq => ?_⟩
    · rw [e1, hk q (Nat.lt_of_lt_of_le h1 hS.1) h2]
      exact hS.2.1 q h1 h2
    · rcases List.mem_append.mp hq with z | z
      · exact hS.2.2 q z
      · exact hL q z
  obtain ⟨t2, a1, b1⟩ := k r h' hq p l e R s m args below meth c kc ks Z C0 hR T'.heap (locs ++ L) la hla (by rw [e1]; exact hb) hS' T' rfl X'
  refine ⟨t2, go t2 ?_, b1⟩
  have e3 : (r.toList ++ st).map (mv X) = (r.map (mv X)).toList ++ st.map (mv X) := by
    rw [List.map_append]
    cases r <;> rfl
  rw [← e3]
  exact a1
theorem J_callV {idx b ci d' n : Nat} {M : jMI} {As stk vs : List Value} {T : u_T} {N : Nat} {Qc : Option Value → HF → Prop} (hd : decode cc pc = .ok (.invokevirtual idx, 3)) (hM : jM M) (hl : jMV own idx M n) (hb : hAt h b (oB ci vs)) (hci : jcl[ci]? = some (M.1.cls, T, N)) (hn : As.length = n) (hs : stk = As.reverse ++ .ref b :: st) (hw : (st.map fun v => v.category).sum ≤ 8) (hdd : d' < d)
    (ct : Ct X M d' (.ref b :: As) h Qc) (k : ∀ (r : Option Value) (h' : HF), Qc r h' → J X own cc nL d ret Q (pc + 3) ls (r.toList ++ st) h') : J X own cc nL d ret Q pc ls stk h := by
  intro p l e R s m args below meth c kc ks Z C0 hR H locs la hla hP hS
  subst hs
  obtain ⟨hx, hb', hml, hown, hts, hK, hi, hst, hrm, hkc, hks, hnn⟩ := id C0
  obtain ⟨l1, l2, l3, l4⟩ := hl
  obtain ⟨hb1, hb2⟩ := hb
  have hMM := hM
  obtain ⟨m1, m2, m3, m4, m5⟩ := hM
  have cb : CallB R s args own idx M.1 M.2.1 M.2.2.1 M.2.2.2 (Cond.code M.1 M.2.1 M.2.2.1 M.2.2.2 :: jtb) (jrm d') 0 0 n := callB_of n hts (jgoodM hMM) rfl rfl rfl (hts _ m3) (hts _ l1) ⟨m4.1, m4.2, l4⟩ ⟨by show d' + 1 ≤ R.frames; omega, by show 8 + (M.2.2.1 + 11) + 35 * d' ≤ R.locals; omega⟩
  have run := va_runV (b := jad X b) (As := As.map (mv X)) (rest := st.map (mv X)) (H := H) (locs := locs) (cells := kc) (slots := ks) (below := below) (meth := meth) (e := e) (g := F0 m pc la ((As.reverse ++ .ref b :: st).map (mv X))) ⟨hx, hb', hml, hown, hts⟩ (ct l) ⟨cb, hts _ l2, hts _ l3⟩
    ⟨jblind, va_recv hK hP hci (q0 := b) (fs := vs.map (mv X)) (by rw [wl_at hb1, hb2]; rfl), fun U hU hW => ⟨rfl, jpre hP hK hi hst hnn hS U hU hW⟩⟩ rfl (by rw [List.length_map]; exact hn) hla.1 (by show List.map (mv X) _ = _; rw [List.map_append, List.map_reverse]; rfl) (lv_room (by rw [mv_cats]; exact hw)) hd ⟨hkc, hks⟩
  exact jcall C0 hR hla hS run k
theorem J_callS {idx d' n : Nat} {M : jMI} {As stk : List Value} {Qc : Option Value → HF → Prop} (hd : decode cc pc = .ok (.invokestatic idx, 3)) (hM : jM M) (hl : jMS own idx M n) (hn : As.length = n) (hs : stk = As.reverse ++ st) (hw : (st.map fun v => v.category).sum ≤ 8) (hdd : d' < d)
    (ct : Ct X M d' As h Qc) (k : ∀ (r : Option Value) (h' : HF), Qc r h' → J X own cc nL d ret Q (pc + 3) ls (r.toList ++ st) h') : J X own cc nL d ret Q pc ls stk h := by
  intro p l e R s m args below meth c kc ks Z C0 hR H locs la hla hP hS
  subst hs
  obtain ⟨hx, hb', hml, hown, hts, hK, hi, hst, hrm, hkc, hks, hnn⟩ := id C0
  obtain ⟨l1, l2, l4⟩ := hl
  have hMM := hM
  obtain ⟨m1, m2, m3, m4, m5⟩ := hM
  have cb : CallB R s args own idx M.1 M.2.1 M.2.2.1 M.2.2.2 (Cond.code M.1 M.2.1 M.2.2.1 M.2.2.2 :: jtb) (jrm d') 0 0 n := callB_of n hts (jgoodM hMM) rfl rfl rfl (hts _ m3) (hts _ l1) ⟨m4.1, m4.2, l4⟩ ⟨by show d' + 1 ≤ R.frames; omega, by show 8 + (M.2.2.1 + 11) + 35 * d' ≤ R.locals; omega⟩
  have run := va_runS (As := As.map (mv X)) (rest := st.map (mv X)) (H := H) (locs := locs) (cells := kc) (slots := ks) (below := below) (meth := meth) (e := e) (g := F0 m pc la ((As.reverse ++ st).map (mv X))) ⟨hx, hb', hml, hown, hts⟩ (ct l) ⟨cb, hts _ l2⟩
    ⟨jblind, fun U hU hW => ⟨rfl, jpre hP hK hi hst hnn hS U hU hW⟩⟩ rfl (by rw [List.length_map]; exact hn) hla.1 (by show List.map (mv X) _ = _; rw [List.map_append, List.map_reverse]) (lv_room (by rw [mv_cats]; exact hw)) hd ⟨hkc, hks⟩
  exact jcall C0 hR hla hS run k
theorem J_callN {idx d' n : Nat} {host : String} {M : jMI} {As stk : List Value} {Qc : Option Value → HF → Prop} (hd : decode cc pc = .ok (.invokestatic idx, 3)) (hM : jM M) (hl : jMN own idx M n host) (hn : As.length = n) (hs : stk = As.reverse ++ st) (hw : (st.map fun v => v.category).sum ≤ 8) (hdd : d' < d)
    (ct : Ct X M d' As h Qc) (k : ∀ (r : Option Value) (h' : HF), Qc r h' → J X own cc nL d ret Q (pc + 3) ls (r.toList ++ st) h') : J X own cc nL d ret Q pc ls stk h := by
  intro p l e R s m args below meth c kc ks Z C0 hR H locs la hla hP hS
  subst hs
  obtain ⟨hx, hb', hml, hown, hts, hK, hi, hst, hrm, hkc, hks, hnn⟩ := id C0
  obtain ⟨l1, l2, l4⟩ := hl
  have hMM := hM
  obtain ⟨m1, m2, m3, m4, m5⟩ := hM
  have cn : va_CN R s args own idx M.1 host M.2.1 M.2.2.1 M.2.2.2 (Cond.code M.1 M.2.1 M.2.2.1 M.2.2.2 :: jtb) (jrm d') 0 0 n := va_cnB n hts (jgoodM hMM) rfl rfl rfl (l1 s hnn) (hts _ m3) ⟨m4.1, m4.2, l4⟩ ⟨by show d' + 1 ≤ R.frames; omega, by show 8 + (M.2.2.1 + 11) + 35 * d' ≤ R.locals; omega⟩
  have run := va_runSN (As := As.map (mv X)) (rest := st.map (mv X)) (H := H) (locs := locs) (cells := kc) (slots := ks) (below := below) (meth := meth) (e := e) (g := F0 m pc la ((As.reverse ++ st).map (mv X))) ⟨hx, hb', hml, hown, hts⟩ (ct l) ⟨cn, hts _ l2, trivial⟩
    ⟨jblind, fun U hU hW => ⟨rfl, jpre hP hK hi hst hnn hS U hU hW⟩⟩ rfl (by rw [List.length_map]; exact hn) hla.1 (by show List.map (mv X) _ = _; rw [List.map_append, List.map_reverse]) (lv_room (by rw [mv_cats]; exact hw)) hd ⟨hkc, hks⟩
  exact jcall C0 hR hla hS run k
end JC
/-- a contract out of the walk of the body -/
theorem Ct_of {X : Cx} {M : jMI} {d : Nat} {args : List Value} {h : HF} {Q : Option Value → HF → Prop} (hM : jM M) (ls : List (Option Value)) (hle : (lg_sl (args.map (mv X))).length ≤ M.2.2.1) (hls : jls X 0 ls = lv_args 0 (args.map (mv X))) (hj : J X M.1.cls M.2.1 M.2.2.1 d M.2.2.2 Q 0 ls [] h) : Ct X M d args h Q := by
  intro l
  refine Met.ofW (cc := M.2.1) (maxL := M.2.2.1) (ret := M.2.2.2) hM.1 rfl ?_
  intro p e s m args' below meth c s₁ B hml hv
  obtain ⟨rfl, hP, hK, hi, hst, hnn⟩ := hv
  have hts0 := atoms_spec (ws := Cond.code M.1 M.2.1 M.2.2.1 M.2.2.2 :: jtb) B.pre
  have hown : s.vm.findClass M.1.cls = some m.cls := findClass_of_methodNamed B.named
  have hlk := B.notSynchronized
  rw [lg_entry_eq]
  have hl := lv_entry (args.map (mv X)) (n := M.2.2.1) hle
  rw [← hls] at hl
  refine hj p l e _ s m _ below meth c 0 0 _ ⟨B.exec, B.bytes, hml, hown, fun w hw => hts0 w (List.mem_cons_of_mem _ hw), hK, hi, hst, ⟨Nat.le_refl _, Nat.le_refl _⟩, Nat.zero_le _, Nat.zero_le _, hnn⟩ ?_ s.heap [] _ hl hP va_S.rf
  intro H locs la pc r h' hQ hok hP' hS'
  match r, hok with
  | none, hok =>
    exact W.vret B.exec B.bytes (B.returns.trans hok.1) (fun t ht hW => ⟨⟨none, h', rfl, hQ, by rw [ht]; exact hP'⟩, hS'.F ht⟩) hS'.2.2 hok.2 hlk
  | some (.int v), hok =>
    obtain ⟨h1, h2 | ⟨h2, h3⟩⟩ := hok
    · exact W.iret B.exec B.bytes (B.returns.trans h2) (fun t ht hW => ⟨⟨some (.int v), h', rfl, hQ, by rw [ht]; exact hP'⟩, hS'.F ht⟩) hS'.2.2 h1 hlk
    · refine W.zret (ty := .boolean) B.exec B.bytes (B.returns.trans h2) ?_ (fun t ht hW => ⟨⟨some (.int v), h', rfl, hQ, by rw [ht]; exact hP'⟩, hS'.F ht⟩) hS'.2.2 h1 hlk
      rcases h3 with rfl | rfl <;> rfl
  | some (.long v), hok =>
    exact W.lret B.exec B.bytes (B.returns.trans hok.1) (fun t ht hW => ⟨⟨some (.long v), h', rfl, hQ, by rw [ht]; exact hP'⟩, hS'.F ht⟩) hS'.2.2 hok.2 hlk
  | some (.ref v), hok =>
    obtain ⟨h1, n, h2⟩ := hok
    exact W.aret (rt := .object n) B.exec B.bytes (B.returns.trans h2) (Or.inl ⟨n, rfl⟩) (Or.inr ⟨_, rfl⟩) (fun t ht hW => ⟨⟨some (.ref v), h', rfl, hQ, by rw [ht]; exact hP'⟩, hS'.F ht⟩) hS'.2.2 h1 hlk
