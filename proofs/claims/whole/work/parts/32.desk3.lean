theorem dk_set {h : HF} {D : DS} {ca : Nat → Nat} {xs : Nat → Nat → Nat → Nat} (p : dkAt h D ca xs) {f : Nat → Int32} {w v : Nat} (hf : ∀ j, j < 3 → f j = nI (dst D j)) (hv : dst (dSS D w v) 0 < 3 ∧ dst (dSS D w v) 1 ≤ 500 ∧ dst (dSS D w v) 2 ≤ 500) : dkAt (hu h 3 (oA 0 3 (upd f w (nI v)))) (dSS D w v) ca xs := by
  obtain ⟨h0, ⟨fc, hfc, hfc0⟩, hca, hcut, ⟨fl, hfl, hfl0⟩, ⟨fs, hfs, hfs0⟩, ⟨fh, hfh, hfh0⟩, hsh, ⟨fp, hfp, hfp0⟩, ⟨n6, g6, h6⟩, h33, ⟨t11, f11, h11⟩, hxs, k1, k2, k3, k4⟩ := p
  have m : ∀ {a : Nat} {c c' : AE}, hAt h a c → a ≠ 3 → hAt (hu h 3 c') a c := fun q r => hAt_ne q r
  have o : ∀ {c' : AE} (b : Nat), 3 < b → hu h 3 c' b = h b := fun b r => hu_ne (by omega)
  refine ⟨m h0 (by omega), ⟨fc, m hfc (by omega), hfc0⟩, hca, fun j hj => cut_other (hcut j hj) (fun b l u => o b ?_), ⟨fl, m hfl (by omega), hfl0⟩, ⟨_, hAt_s hfs.1, fun j hj => ?_⟩, ⟨fh, m hfh (by omega), hfh0⟩, fun s hs => sh_other (hsh s hs) (fun b l u => o b (by omega)), ⟨fp, m hfp (by omega), hfp0⟩, ⟨n6, g6, sp_other h6 (fun b l u => o b (by omega))⟩, fun j hj => ?_, ⟨t11, f11, ma_other h11 (fun b l u => o b (by omega))⟩, hxs, hv.1, hv.2.1, hv.2.2, k4⟩
  · rcases (show j = 0 ∨ j = 1 by omega) with rfl | rfl <;> omega
  · unfold upd dst dSS
    dsimp only
    split
    · rfl
    · exact hf j hj
  · obtain ⟨n, g, q⟩ := h33 j hj
    exact ⟨n, g, sp_other q (fun b l u => o b (by omega))⟩
theorem dk_len {h : HF} {D : DS} {ca : Nat → Nat} {xs : Nat → Nat → Nat → Nat} (p : dkAt h D ca xs) {f : Nat → Int32} {w v : Nat} (hf : ∀ j, j < 6 → f j = nI (dl D j)) (hv : 1 ≤ v ∧ v ≤ 200000) : dkAt (hu h 2 (oA 0 6 (upd f w (nI v)))) (dSL D w v) ca xs := by
  obtain ⟨h0, ⟨fc, hfc, hfc0⟩, hca, hcut, ⟨fl, hfl, hfl0⟩, ⟨fs, hfs, hfs0⟩, ⟨fh, hfh, hfh0⟩, hsh, ⟨fp, hfp, hfp0⟩, ⟨n6, g6, h6⟩, h33, ⟨t11, f11, h11⟩, hxs, k1, k2, k3, k4, k5⟩ := p
  have m : ∀ {a : Nat} {c c' : AE}, hAt h a c → a ≠ 2 → hAt (hu h 2 c') a c := fun q r => hAt_ne q r
  have o : ∀ {c' : AE} (b : Nat), 2 < b → hu h 2 c' b = h b := fun b r => hu_ne (by omega)
  refine ⟨m h0 (by omega), ⟨fc, m hfc (by omega), hfc0⟩, hca, fun j hj => cut_other (hcut j hj) (fun b l u => o b ?_), ⟨_, hAt_s hfl.1, fun j hj => ?_⟩, ⟨fs, m hfs (by omega), hfs0⟩, ⟨fh, m hfh (by omega), hfh0⟩, fun s hs => sh_other (hsh s hs) (fun b l u => o b (by omega)), ⟨fp, m hfp (by omega), hfp0⟩, ⟨n6, g6, sp_other h6 (fun b l u => o b (by omega))⟩, fun j hj => ?_, ⟨t11, f11, ma_other h11 (fun b l u => o b (by omega))⟩, hxs, k1, k2, k3, fun r hr => ?_, k5⟩
  · rcases (show j = 0 ∨ j = 1 by omega) with rfl | rfl <;> omega
  · unfold upd dl dSL
    dsimp only
    split
    · rfl
    · exact hf j hj
  · obtain ⟨n, g, q⟩ := h33 j hj
    exact ⟨n, g, sp_other q (fun b l u => o b (by omega))⟩
  · unfold dl dSL
    dsimp only
    split
    · exact hv
    · exact k4 r hr
theorem dk_sheet {h h' : HF} {D : DS} {ca : Nat → Nat} {xs : Nat → Nat → Nat → Nat} (p : dkAt h D ca xs) {s : Nat} {q : Bool × Nat × Nat × (Nat → Int32)} (hs : s < 4) (ho : offB h h' (43 + 2 * s) (45 + 2 * s)) (hC : shAt h' (43 + 2 * s) q.1 q.2.1 q.2.2.1 q.2.2.2) : dkAt h' (dSH D s q) ca xs := by
  obtain ⟨h0, ⟨fc, hfc, hfc0⟩, hca, hcut, ⟨fl, hfl, hfl0⟩, ⟨fs, hfs, hfs0⟩, ⟨fh, hfh, hfh0⟩, hsh, ⟨fp, hfp, hfp0⟩, ⟨n6, g6, h6⟩, h33, ⟨t11, f11, h11⟩, hxs, k1, k2, k3, k4, k5, k6, k7, k8⟩ := p
  have m : ∀ {a : Nat} {c : AE}, hAt h a c → a < 43 → hAt h' a c := fun q r => ⟨q.1, (ho _ (by omega)).trans q.2⟩
  refine ⟨m h0 (by omega), ⟨fc, m hfc (by omega), hfc0⟩, hca, fun j hj => cut_other (hcut j hj) (fun b l u => ho b ?_), ⟨fl, m hfl (by omega), hfl0⟩, ⟨fs, m hfs (by omega), hfs0⟩, ⟨fh, m hfh (by omega), hfh0⟩, fun j hj => ?_, ⟨fp, m hfp (by omega), hfp0⟩, ⟨n6, g6, sp_other h6 (fun b l u => ho b (by omega))⟩, fun j hj => ?_, ⟨t11, f11, ma_other h11 (fun b l u => ho b (by omega))⟩, hxs, k1, k2, k3, k4, k5, k6, k7, fun j hj => ?_⟩
  · rcases (show j = 0 ∨ j = 1 by omega) with rfl | rfl <;> omega
  · by_cases z : j = s
    · subst z
      rw [show dsh (dSH D j q) j = q from if_pos rfl]
      exact hC
    · rw [show dsh (dSH D s q) j = dsh D j from if_neg z]
      exact sh_other (hsh j hj) (fun b l u => ho b (by omega))
  · obtain ⟨n, g, q⟩ := h33 j hj
    exact ⟨n, g, sp_other q (fun b l u => ho b (by omega))⟩
  · by_cases z : j = s
    · subst z
      rw [show dsh (dSH D j q) j = q from if_pos rfl]
      exact hC.2.2
    · rw [show dsh (dSH D s q) j = dsh D j from if_neg z]
      exact k8 j hj
section
variable {X : Cx} {h : HF} {D : DS} {ca : Nat → Nat} {xs : Nat → Nat → Nat → Nat}
theorem c_set_bad {w v : Int32} (hb : ¬ ∃ j, j < 3 ∧ w = nI j ∧ 0 ≤ v ∧ v ≤ jt0 j) : CtI X mX6_set 1 [.ref 0, .int w, .int v] h (-2) := by
  refine Ct_of jmX6_set [some (.ref 0), some (.int w), some (.int v), none] (Nat.le_of_ble_eq_true rfl) rfl ?_
  show J X RX6 cX6_set 4 _ (some .int) _ 0 _ _ _
  rcases ix_cases w 3 (by decide) with ⟨j, hj, rfl⟩ | hw
  · by_cases h1 : v < 0
    · refine J_iload_1 dX6_set_0 ?_
      refine J_gs0 dX6_set_1 fs_X6_19 ?_
      refine J_tn0 dX6_set_4 ?_
      refine J_cS2i dX6_set_5 jmX6_isBelow ms_X6_60 (Nat.le_of_ble_eq_true rfl) (by decide) (c_below hj (by decide)) ?_
      refine J_if_eq (tgt := 24) dX6_set_8 (by decide) (fun c => absurd c (by decide)) (fun _ => ?_)
      refine J_iload_2 dX6_set_11 ?_
      refine J_if_lt (tgt := 24) dX6_set_12 (by decide) (fun _ => ?_) (fun c => absurd h1 c)
      refine J_bipush (v := -2) dX6_set_24 (by decide) ?_
      exact J_iret dX6_set_26 rfl (⟨rfl, rfl⟩)
    · have h2 : ¬ v ≤ jt0 j := fun z => hb ⟨j, hj, rfl, Int32.not_lt.mp h1, z⟩
      refine J_iload_1 dX6_set_0 ?_
      refine J_gs0 dX6_set_1 fs_X6_19 ?_
      refine J_tn0 dX6_set_4 ?_
      refine J_cS2i dX6_set_5 jmX6_isBelow ms_X6_60 (Nat.le_of_ble_eq_true rfl) (by decide) (c_below hj (by decide)) ?_
      refine J_if_eq (tgt := 24) dX6_set_8 (by decide) (fun c => absurd c (by decide)) (fun _ => ?_)
      refine J_iload_2 dX6_set_11 ?_
      refine J_if_lt (tgt := 24) dX6_set_12 (by decide) (fun c => absurd c h1) (fun _ => ?_)
      refine J_iload_2 dX6_set_15 ?_
      refine J_gs0 dX6_set_16 fs_X6_19 ?_
      refine J_iload_1 dX6_set_19 ?_
      refine J_tl0 dX6_set_20 rfl (by omega) ?_
      refine J_icmp_le (tgt := 27) dX6_set_21 (by decide) (fun c => absurd c h2) (fun _ => ?_)
      refine J_bipush (v := -2) dX6_set_24 (by decide) ?_
      exact J_iret dX6_set_26 rfl (⟨rfl, rfl⟩)
  · refine J_iload_1 dX6_set_0 ?_
    refine J_gs0 dX6_set_1 fs_X6_19 ?_
    refine J_tn0 dX6_set_4 ?_
    refine J_cS2i dX6_set_5 jmX6_isBelow ms_X6_60 (Nat.le_of_ble_eq_true rfl) (by decide) (c_nbelow hw) ?_
    refine J_if_eq (tgt := 24) dX6_set_8 (by decide) (fun _ => ?_) (fun c => absurd (by decide) c)
    refine J_bipush (v := -2) dX6_set_24 (by decide) ?_
    exact J_iret dX6_set_26 rfl (⟨rfl, rfl⟩)
theorem c_set_ok (p : dkAt h D ca xs) {w v : Nat} (hw : w < 3) (hv0 : v < 2 ^ 31) (hv : nI v ≤ jt0 w) (hv3 : dst (dSS D w v) 0 < 3 ∧ dst (dSS D w v) 1 ≤ 500 ∧ dst (dSS D w v) 2 ≤ 500) : Ct X mX6_set 1 [.ref 0, .int (nI w), .int (nI v)] h (fun r h' => r = some (.int (nI (dst D w))) ∧ DeskAt h' (dSS D w v) ∧ offB h h' 0 51) := by
  obtain ⟨h0, -, -, -, -, ⟨fs, hfs, hfs0⟩, hrest⟩ := id p
  rw [← hfs0 w hw]
  refine Ct_of jmX6_set [some (.ref 0), some (.int (nI w)), some (.int (nI v)), none] (Nat.le_of_ble_eq_true rfl) rfl ?_
  show J X RX6 cX6_set 4 _ (some .int) _ 0 _ _ _
  refine J_iload_1 dX6_set_0 ?_
  refine J_gs0 dX6_set_1 fs_X6_19 ?_
  refine J_tn0 dX6_set_4 ?_
  refine J_cS2i dX6_set_5 jmX6_isBelow ms_X6_60 (Nat.le_of_ble_eq_true rfl) (by decide) (c_below hw (by decide)) ?_
  refine J_if_eq (tgt := 24) dX6_set_8 (by decide) (fun c => absurd c (by decide)) (fun _ => ?_)
  refine J_iload_2 dX6_set_11 ?_
  refine J_if_ltN (tgt := 24) dX6_set_12 (by decide) (by omega) ?_
  refine J_iload_2 dX6_set_15 ?_
  refine J_gs0 dX6_set_16 fs_X6_19 ?_
  refine J_iload_1 dX6_set_19 ?_
  refine J_tl0 dX6_set_20 rfl (by omega) ?_
  refine J_icmp_le (tgt := 27) dX6_set_21 (by decide) (fun _ => ?_) (fun c => absurd hv c)
  refine J_aload_0 dX6_set_27 ?_
  refine J_get dX6_set_28 fl_X6_22 h0 rfl ?_
  refine J_iload_1 dX6_set_31 ?_
  refine J_iald dX6_set_32 hfs rfl (by omega) (by omega) ?_
  refine J_istore_3 dX6_set_33 (Nat.le_of_ble_eq_true rfl) rfl ?_
  refine J_aload_0 dX6_set_34 ?_
  refine J_get dX6_set_35 fl_X6_22 h0 rfl ?_
  refine J_iload_1 dX6_set_38 ?_
  refine J_iload_2 dX6_set_39 ?_
  refine J_iast dX6_set_40 hfs rfl (by omega) (by omega) ?_
  refine J_iload_3 dX6_set_41 ?_
  exact J_iret dX6_set_42 rfl (⟨rfl, ⟨ca, xs, dk_set p hfs0 hv3⟩, offB.rf.hu (by omega) (by omega)⟩)
theorem c_reel_bad {w v : Int32} (hb : ¬ ∃ j, j < 6 ∧ w = nI j ∧ nI 1 ≤ v ∧ v ≤ nI 200000) : CtI X mX6_reel 1 [.ref 0, .int w, .int v] h (-2) := by
  refine Ct_of jmX6_reel [some (.ref 0), some (.int w), some (.int v), none] (Nat.le_of_ble_eq_true rfl) rfl ?_
  show J X RX6 cX6_reel 4 _ (some .int) _ 0 _ _ _
  rcases ix_cases w 6 (by decide) with ⟨j, hj, rfl⟩ | hw
  · by_cases h1 : v < nI 1
    · refine J_iload_1 dX6_reel_0 ?_
      refine J_bipush (v := nI 6) dX6_reel_1 (by decide) ?_
      refine J_cS2i dX6_reel_3 jmX6_isBelow ms_X6_60 (Nat.le_of_ble_eq_true rfl) (by decide) (c_below hj (by decide)) ?_
      refine J_if_eq (tgt := 20) dX6_reel_6 (by decide) (fun c => absurd c (by decide)) (fun _ => ?_)
      refine J_iload_2 dX6_reel_9 ?_
      refine J_iconst (v := nI 1) dX6_reel_10 (by decide) ?_
      refine J_icmp_lt (tgt := 20) dX6_reel_11 (by decide) (fun _ => ?_) (fun c => absurd h1 c)
      refine J_bipush (v := -2) dX6_reel_20 (by decide) ?_
      exact J_iret dX6_reel_22 rfl (⟨rfl, rfl⟩)
    · have h2 : ¬ v ≤ nI 200000 := fun z => hb ⟨j, hj, rfl, Int32.not_lt.mp h1, z⟩
      refine J_iload_1 dX6_reel_0 ?_
      refine J_bipush (v := nI 6) dX6_reel_1 (by decide) ?_
      refine J_cS2i dX6_reel_3 jmX6_isBelow ms_X6_60 (Nat.le_of_ble_eq_true rfl) (by decide) (c_below hj (by decide)) ?_
      refine J_if_eq (tgt := 20) dX6_reel_6 (by decide) (fun c => absurd c (by decide)) (fun _ => ?_)
      refine J_iload_2 dX6_reel_9 ?_
      refine J_iconst (v := nI 1) dX6_reel_10 (by decide) ?_
      refine J_icmp_lt (tgt := 20) dX6_reel_11 (by decide) (fun c => absurd c h1) (fun _ => ?_)
      refine J_iload_2 dX6_reel_14 ?_
      refine J_ldc dX6_reel_15 kc_X6_100 ?_
      refine J_icmp_le (tgt := 23) dX6_reel_17 (by decide) (fun c => absurd c h2) (fun _ => ?_)
      refine J_bipush (v := -2) dX6_reel_20 (by decide) ?_
      exact J_iret dX6_reel_22 rfl (⟨rfl, rfl⟩)
  · refine J_iload_1 dX6_reel_0 ?_
    refine J_bipush (v := nI 6) dX6_reel_1 (by decide) ?_
    refine J_cS2i dX6_reel_3 jmX6_isBelow ms_X6_60 (Nat.le_of_ble_eq_true rfl) (by decide) (c_nbelow hw) ?_
    refine J_if_eq (tgt := 20) dX6_reel_6 (by decide) (fun _ => ?_) (fun c => absurd (by decide) c)
    refine J_bipush (v := -2) dX6_reel_20 (by decide) ?_
    exact J_iret dX6_reel_22 rfl (⟨rfl, rfl⟩)
theorem c_reel_ok (p : dkAt h D ca xs) {w v : Nat} (hw : w < 6) (hv : 1 ≤ v ∧ v ≤ 200000) : Ct X mX6_reel 1 [.ref 0, .int (nI w), .int (nI v)] h (fun r h' => r = some (.int (nI (dl D w))) ∧ DeskAt h' (dSL D w v) ∧ offB h h' 0 51) := by
  obtain ⟨h0, -, -, -, ⟨fl, hfl, hfl0⟩, hrest⟩ := id p
  rw [← hfl0 w hw]
  refine Ct_of jmX6_reel [some (.ref 0), some (.int (nI w)), some (.int (nI v)), none] (Nat.le_of_ble_eq_true rfl) rfl ?_
  show J X RX6 cX6_reel 4 _ (some .int) _ 0 _ _ _
  refine J_iload_1 dX6_reel_0 ?_
  refine J_bipush (v := nI 6) dX6_reel_1 (by decide) ?_
  refine J_cS2i dX6_reel_3 jmX6_isBelow ms_X6_60 (Nat.le_of_ble_eq_true rfl) (by decide) (c_below hw (by decide)) ?_
  refine J_if_eq (tgt := 20) dX6_reel_6 (by decide) (fun c => absurd c (by decide)) (fun _ => ?_)
  refine J_iload_2 dX6_reel_9 ?_
  refine J_iconst (v := nI 1) dX6_reel_10 (by decide) ?_
  refine J_icmp_ltN (tgt := 20) dX6_reel_11 (by decide) (by omega) (by omega) (fun c => absurd c (by omega)) (fun _ => ?_)
  refine J_iload_2 dX6_reel_14 ?_
  refine J_ldc dX6_reel_15 kc_X6_100 ?_
  refine J_icmp_leN (tgt := 23) dX6_reel_17 (by decide) (by omega) (by omega) (fun _ => ?_) (fun c => absurd c (by omega))
  refine J_aload_0 dX6_reel_23 ?_
  refine J_get dX6_reel_24 fl_X6_15 h0 rfl ?_
  refine J_iload_1 dX6_reel_27 ?_
  refine J_iald dX6_reel_28 hfl rfl (by omega) (by omega) ?_
  refine J_istore_3 dX6_reel_29 (Nat.le_of_ble_eq_true rfl) rfl ?_
  refine J_aload_0 dX6_reel_30 ?_
  refine J_get dX6_reel_31 fl_X6_15 h0 rfl ?_
  refine J_iload_1 dX6_reel_34 ?_
  refine J_iload_2 dX6_reel_35 ?_
  refine J_iast dX6_reel_36 hfl rfl (by omega) (by omega) ?_
  refine J_iload_3 dX6_reel_37 ?_
  exact J_iret dX6_reel_38 rfl (⟨rfl, ⟨ca, xs, dk_len p hfl0 hv⟩, offB.rf.hu (by omega) (by omega)⟩)
theorem dk_swap (p : dkAt h D ca xs) {f : Nat → Option Nat} (hf : ∀ l, l < 2 → f l = some (ca (1 - l))) : dkAt (hu h 1 (oR 3 2 f)) (dSW D) (fun j => ca (1 - j)) (fun j => if j = 0 then xs 1 else xs 0) := by
  obtain ⟨h0, ⟨fc, hfc, hfc0⟩, hca, hcut, ⟨fl, hfl, hfl0⟩, ⟨fs, hfs, hfs0⟩, ⟨fh, hfh, hfh0⟩, hsh, ⟨fp, hfp, hfp0⟩, ⟨n6, g6, h6⟩, h33, ⟨t11, f11, h11⟩, hxs, k1, k2, k3, k4, k5, k6, k7, k8⟩ := p
  have m : ∀ {a : Nat} {c c' : AE}, hAt h a c → a ≠ 1 → hAt (hu h 1 c') a c := fun q r => hAt_ne q r
  have o : ∀ {c' : AE} (b : Nat), 1 < b → hu h 1 c' b = h b := fun b r => hu_ne (by omega)
  refine ⟨m h0 (by omega), ⟨f, hAt_s hfc.1, hf⟩, by show (ca 1 = 13 ∧ ca 0 = 23) ∨ (ca 1 = 23 ∧ ca 0 = 13); omega, fun j hj => ?_, ⟨fl, m hfl (by omega), hfl0⟩, ⟨fs, m hfs (by omega), hfs0⟩, ⟨fh, m hfh (by omega), hfh0⟩, fun s hs => sh_other (hsh s hs) (fun b l u => o b (by omega)), ⟨fp, m hfp (by omega), hfp0⟩, ⟨n6, g6, sp_other h6 (fun b l u => o b (by omega))⟩, fun j hj => ?_, ⟨t11, f11, ma_other h11 (fun b l u => o b (by omega))⟩, ?_, k1, k2, k3, k4, k5, ?_, ?_, k8⟩
  · rcases (show j = 0 ∨ j = 1 by omega) with rfl | rfl
    · show cutAt _ (ca 1) (dn D 1) (xs 1)
      exact cut_other (hcut 1 (by omega)) (fun b l u => o b (by omega))
    · show cutAt _ (ca 0) (dn D 0) (xs 0)
      exact cut_other (hcut 0 (by omega)) (fun b l u => o b (by omega))
  · obtain ⟨n, g, q⟩ := h33 j hj
    exact ⟨n, g, sp_other q (fun b l u => o b (by omega))⟩
  · intro j e hj he
    rcases (show j = 0 ∨ j = 1 by omega) with rfl | rfl
    · exact hxs 1 e (by omega) he
    · exact hxs 0 e (by omega) he
  · intro j hj
    rcases (show j = 0 ∨ j = 1 by omega) with rfl | rfl
    · exact k6 1 (by omega)
    · exact k6 0 (by omega)
  · intro j e hj he
    rcases (show j = 0 ∨ j = 1 by omega) with rfl | rfl
    · exact k7 1 e (by omega) he
    · exact k7 0 e (by omega) he
theorem hu_at2 {h : HF} {c1 c2 : AE} : hu (hu h 1 c1) 1 c2 = hu h 1 c2 := hu_hu
theorem c_swap (p : dkAt h D ca xs) : Ct X mX6_swap 0 [.ref 0] h (fun r h' => r = some (.int (nI (dn D 1 + dn D 0))) ∧ DeskAt h' (dSW D) ∧ offB h h' 0 51) := by
  obtain ⟨h0, ⟨fc, hfc, hfc0⟩, hca, hcut, hrest⟩ := id p
  have hc0 := (hcut 0 (by decide)).1
  have hc1 := (hcut 1 (by decide)).1
  have g0 := hfc0 0 (by decide)
  have g1 := hfc0 1 (by decide)
  have ff : ∀ l, l < 2 → va_up (va_up fc 0 (some (ca 1))) 1 (some (ca 0)) l = some (ca (1 - l)) := by
    intro l hl
    rcases (show l = 0 ∨ l = 1 by omega) with rfl | rfl <;> rfl
  have p2 := dk_swap p ff
  have hx0 : hAt (hu h 1 (oR 3 2 (va_up (va_up fc 0 (some (ca 1))) 1 (some (ca 0))))) 1 (oR 3 2 (va_up (va_up fc 0 (some (ca 1))) 1 (some (ca 0)))) := hAt_s hfc.1
  refine Ct_of jmX6_swap [some (.ref 0), none] (Nat.le_of_ble_eq_true rfl) rfl ?_
  show J X RX6 cX6_swap 2 _ (some .int) _ 0 _ _ _
  refine J_aload_0 dX6_swap_0 ?_
  refine J_get dX6_swap_1 fl_X6_11 h0 rfl ?_
  refine J_iconst (v := nI 0) dX6_swap_4 (by decide) ?_
  refine J_aald dX6_swap_5 hfc ⟨_, rfl⟩ rfl (by omega) (by omega) g0 ?_
  refine J_astore_1 dX6_swap_6 (Nat.le_of_ble_eq_true rfl) rfl ?_
  refine J_aload_0 dX6_swap_7 ?_
  refine J_get dX6_swap_8 fl_X6_11 h0 rfl ?_
  refine J_iconst (v := nI 0) dX6_swap_11 (by decide) ?_
  refine J_aload_0 dX6_swap_12 ?_
  refine J_get dX6_swap_13 fl_X6_11 h0 rfl ?_
  refine J_iconst (v := nI 1) dX6_swap_16 (by decide) ?_
  refine J_aald dX6_swap_17 hfc ⟨_, rfl⟩ rfl (by omega) (by omega) g1 ?_
  refine J_aast dX6_swap_18 hfc hc1 rfl rfl (j := 0) rfl (by omega) (by omega) ?_
  refine J_aload_0 dX6_swap_19 ?_
  refine J_get dX6_swap_20 fl_X6_11 (hAt_ne h0 (by omega)) rfl ?_
  refine J_iconst (v := nI 1) dX6_swap_23 (by decide) ?_
  refine J_aload_1 dX6_swap_24 ?_
  refine J_aast dX6_swap_25 (hAt_s hfc.1) (hAt_ne hc0 (by omega)) rfl rfl (j := 1) rfl (by omega) (by omega) ?_
  rw [hu_hu]
  refine J_aload_0 dX6_swap_26 ?_
  refine J_get dX6_swap_27 fl_X6_11 p2.1 rfl ?_
  refine J_iconst (v := nI 0) dX6_swap_30 (by decide) ?_
  refine J_aald dX6_swap_31 hx0 ⟨_, rfl⟩ rfl (by omega) (by omega) (ff 0 (by decide)) ?_
  refine J_get dX6_swap_32 fl_X6_76 (p2.2.2.2.1 0 (by decide)).1 rfl ?_
  refine J_aload_0 dX6_swap_35 ?_
  refine J_get dX6_swap_36 fl_X6_11 p2.1 rfl ?_
  refine J_iconst (v := nI 1) dX6_swap_39 (by decide) ?_
  refine J_aald dX6_swap_40 hx0 ⟨_, rfl⟩ rfl (by omega) (by omega) (ff 1 (by decide)) ?_
  refine J_get dX6_swap_41 fl_X6_76 (p2.2.2.2.1 1 (by decide)).1 rfl ?_
  first | refine J_iaddN dX6_swap_44 ?_ | refine J_iadd dX6_swap_44 ?_
  exact J_iret dX6_swap_45 rfl (⟨rfl, ⟨_, _, p2⟩, offB.rf.hu (by omega) (by omega)⟩)
end
