section
variable {X : Cx} {own : String} {cc : ByteArray} {nL d : Nat} {ret : Option FieldType} {Q : Option Value → HF → Prop} {pc : Nat} {ls : List (Option Value)} {st : List Value} {h : HF}
theorem J_cpy {idx a b n0 n1 i j m : Nat} {f g : Nat → Int32} (hd : decode cc pc = .ok (.invokestatic idx, 3)) (hm : Cond.methodLink own idx arraycopyName ∈ jtb) (hd0 : 0 < d) (hw : (st.map fun v => v.category).sum ≤ 8) (ha : hAt h a (oA 0 n0 f)) (hb : hAt h b (oA 0 n1 g)) (h1 : i + m ≤ n0) (h2 : j + m ≤ n1) (hn0 : n0 < 2 ^ 31) (hn1 : n1 < 2 ^ 31)
    (k : J X own cc nL d ret Q (pc + 3) ls st (hu h b (oA 0 n1 (va_cpy f g i j m)))) : J X own cc nL d ret Q pc ls (.int (nI m) :: .int (nI j) :: .ref b :: .int (nI i) :: .ref a :: st) h := by
  intro p l e R s m' args below meth c kc ks Z C0 hR H locs la hl hP hS
  have hts := C0.2.2.2.2.1
  have hrm := C0.2.2.2.2.2.2.2.2.1
  obtain ⟨ha1, ha2⟩ := ha
  obtain ⟨hb1, hb2⟩ := hb
  have ci : (nI i).toNatClampNeg = i := nI_clamp (by omega)
  have cj : (nI j).toNatClampNeg = j := nI_clamp (by omega)
  have cm : (nI m).toNatClampNeg = m := nI_clamp (by omega)
  have hset : (wl X h).set b (jad X b, .inl (jK X 0, n1, .inl (va_cpy f g i j m))) = wl X (hu h b (oA 0 n1 (va_cpy f g i j m))) := wl_set (c := oA 0 n1 (va_cpy f g i j m)) hb1
  refine va_copyi C0.1 C0.2.1 (C0.2.2.1.trans hl.1.symm) C0.2.2.2.1 (hts _ hm) (hts _ jx_cpy_n) (hts _ jx_cpy_s) (hts _ jx_sys_i) C0.2.2.2.2.2.1 hP (wl_D C0.2.2.2.2.2.2.1) hS a b 0 0 (f := f) (g := g) (n0 := n0) (n1 := n1) (c0 := jK X 0) (c1 := jK X 0) (ty := .int) (by rw [wl_at ha1, ha2]; rfl) (by rw [wl_at hb1, hb2]; rfl) rfl rfl rfl (nI_pos (by omega)) (nI_pos (by omega)) (nI_pos (by omega)) (by rw [ci, cm]; exact h1) (by rw [cj, cm]; exact h2) (fun _ _ => rfl) (by omega) ?_ hd ?_
  · rw [mv_cats]
    show _ + (7 + 11) ≤ _
    omega
  · rw [ci, cj, cm]
    exact fun H locs hP _ hS => k p l e R s m' args below meth c kc ks Z C0 hR H locs la hl (hset ▸ hP) hS
end
section
variable {X : Cx} {h : HF} {a form n : Nat} {lost : Bool} {it : Nat → Int32}
theorem c_hasT (p : shAt h a lost form n it) {i m : Nat} (hm : i + m ≤ n) : CtI X mX4_hasItems 0 [.ref a, .int (nI i), .int (nI m)] h 1 := by
  obtain ⟨h0, -, hfm, hn⟩ := id p
  refine Ct_of jmX4_hasItems [some (.ref a), some (.int (nI i)), some (.int (nI m))] (Nat.le_of_ble_eq_true rfl) rfl ?_
  show J X RX4 cX4_hasItems 3 _ (some .boolean) _ 0 _ _ _
  refine J_iload_1 dX4_hasItems_0 ?_
  refine J_if_ltN (tgt := 30) dX4_hasItems_1 (by decide) (by omega) ?_
  refine J_iload_2 dX4_hasItems_4 ?_
  refine J_if_ltN (tgt := 30) dX4_hasItems_5 (by decide) (by omega) ?_
  refine J_iload_1 dX4_hasItems_8 ?_
  refine J_aload_0 dX4_hasItems_9 ?_
  refine J_get dX4_hasItems_10 fl_X4_23 h0 rfl ?_
  refine J_icmp_gtN (tgt := 30) dX4_hasItems_13 (by decide) (by omega) (by omega) (fun c => absurd c (by omega)) (fun _ => ?_)
  refine J_iload_2 dX4_hasItems_16 ?_
  refine J_aload_0 dX4_hasItems_17 ?_
  refine J_get dX4_hasItems_18 fl_X4_23 h0 rfl ?_
  refine J_iload_1 dX4_hasItems_21 ?_
  first | refine J_isubN dX4_hasItems_22 (by omega) ?_ | refine J_isub dX4_hasItems_22 ?_
  refine J_icmp_gtN (tgt := 30) dX4_hasItems_23 (by decide) (by omega) (by omega) (fun c => absurd c (by omega)) (fun _ => ?_)
  refine J_iconst (v := nI 1) dX4_hasItems_26 (by decide) ?_
  refine J_goto (tgt := 31) dX4_hasItems_27 (by decide) ?_
  exact J_zret dX4_hasItems_31 rfl (by first | exact Or.inl rfl | exact Or.inr rfl | exact bI_01 _) (⟨rfl, rfl⟩)
theorem c_hasF (p : shAt h a lost form n it) {i m : Int32} (hb : ¬ ∃ j k, i = nI j ∧ m = nI k ∧ j + k ≤ n) : CtI X mX4_hasItems 0 [.ref a, .int i, .int m] h 0 := by
  obtain ⟨h0, -, hfm, hn⟩ := id p
  refine Ct_of jmX4_hasItems [some (.ref a), some (.int i), some (.int m)] (Nat.le_of_ble_eq_true rfl) rfl ?_
  show J X RX4 cX4_hasItems 3 _ (some .boolean) _ 0 _ _ _
  by_cases h1 : i < 0
  · refine J_iload_1 dX4_hasItems_0 ?_
    refine J_if_lt (tgt := 30) dX4_hasItems_1 (by decide) (fun _ => ?_) (fun c => absurd h1 c)
    refine J_iconst (v := nI 0) dX4_hasItems_30 (by decide) ?_
    exact J_zret dX4_hasItems_31 rfl (by first | exact Or.inl rfl | exact Or.inr rfl | exact bI_01 _) (⟨rfl, rfl⟩)
  · by_cases h2 : m < 0
    · refine J_iload_1 dX4_hasItems_0 ?_
      refine J_if_lt (tgt := 30) dX4_hasItems_1 (by decide) (fun c => absurd c h1) (fun _ => ?_)
      refine J_iload_2 dX4_hasItems_4 ?_
      refine J_if_lt (tgt := 30) dX4_hasItems_5 (by decide) (fun _ => ?_) (fun c => absurd h2 c)
      refine J_iconst (v := nI 0) dX4_hasItems_30 (by decide) ?_
      exact J_zret dX4_hasItems_31 rfl (by first | exact Or.inl rfl | exact Or.inr rfl | exact bI_01 _) (⟨rfl, rfl⟩)
    · obtain ⟨j, hj, rfl⟩ := nI_of h1
      obtain ⟨k, hk, rfl⟩ := nI_of h2
      by_cases h3 : j ≤ n
      · have h4 : ¬ j + k ≤ n := fun z => hb ⟨j, k, rfl, rfl, z⟩
        refine J_iload_1 dX4_hasItems_0 ?_
        refine J_if_lt (tgt := 30) dX4_hasItems_1 (by decide) (fun c => absurd c h1) (fun _ => ?_)
        refine J_iload_2 dX4_hasItems_4 ?_
        refine J_if_lt (tgt := 30) dX4_hasItems_5 (by decide) (fun c => absurd c h2) (fun _ => ?_)
        refine J_iload_1 dX4_hasItems_8 ?_
        refine J_aload_0 dX4_hasItems_9 ?_
        refine J_get dX4_hasItems_10 fl_X4_23 h0 rfl ?_
        refine J_icmp_gtN (tgt := 30) dX4_hasItems_13 (by decide) (by omega) (by omega) (fun c => absurd c (by omega)) (fun _ => ?_)
        refine J_iload_2 dX4_hasItems_16 ?_
        refine J_aload_0 dX4_hasItems_17 ?_
        refine J_get dX4_hasItems_18 fl_X4_23 h0 rfl ?_
        refine J_iload_1 dX4_hasItems_21 ?_
        first | refine J_isubN dX4_hasItems_22 (by omega) ?_ | refine J_isub dX4_hasItems_22 ?_
        refine J_icmp_gtN (tgt := 30) dX4_hasItems_23 (by decide) (by omega) (by omega) (fun _ => ?_) (fun c => absurd c (by omega))
        refine J_iconst (v := nI 0) dX4_hasItems_30 (by decide) ?_
        exact J_zret dX4_hasItems_31 rfl (by first | exact Or.inl rfl | exact Or.inr rfl | exact bI_01 _) (⟨rfl, rfl⟩)
      · refine J_iload_1 dX4_hasItems_0 ?_
        refine J_if_lt (tgt := 30) dX4_hasItems_1 (by decide) (fun c => absurd c h1) (fun _ => ?_)
        refine J_iload_2 dX4_hasItems_4 ?_
        refine J_if_lt (tgt := 30) dX4_hasItems_5 (by decide) (fun c => absurd c h2) (fun _ => ?_)
        refine J_iload_1 dX4_hasItems_8 ?_
        refine J_aload_0 dX4_hasItems_9 ?_
        refine J_get dX4_hasItems_10 fl_X4_23 h0 rfl ?_
        refine J_icmp_gtN (tgt := 30) dX4_hasItems_13 (by decide) (by omega) (by omega) (fun _ => ?_) (fun c => absurd c (by omega))
        refine J_iconst (v := nI 0) dX4_hasItems_30 (by decide) ?_
        exact J_zret dX4_hasItems_31 rfl (by first | exact Or.inl rfl | exact Or.inr rfl | exact bI_01 _) (⟨rfl, rfl⟩)
variable {D : DS} {ca : Nat → Nat} {xs : Nat → Nat → Nat → Nat}
theorem c_sheet_bad {s f m : Int32} (hb : ¬ ((∃ k, k < 4 ∧ s = nI k) ∧ (∃ u, u < 3 ∧ f = nI u) ∧ m ≤ nI 60)) : CtI X mX6_sheet 2 [.ref 0, .int s, .int f, .int m] h (-2) := by
  refine Ct_of jmX6_sheet [some (.ref 0), some (.int s), some (.int f), some (.int m)] (Nat.le_of_ble_eq_true rfl) rfl ?_
  show J X RX6 cX6_sheet 4 _ (some .int) _ 0 _ _ _
  rcases ix_cases s 4 (by decide) with ⟨k, hk, rfl⟩ | hs
  · rcases ix_cases f 3 (by decide) with ⟨u, hu, rfl⟩ | hf
    · refine J_iload_1 dX6_sheet_0 ?_
      refine J_iconst (v := nI 4) dX6_sheet_1 (by decide) ?_
      refine J_cS2i dX6_sheet_2 jmX6_isBelow ms_X6_60 (Nat.le_of_ble_eq_true rfl) (by decide) (c_below hk (by decide)) ?_
      refine J_if_eq (tgt := 22) dX6_sheet_5 (by decide) (fun c => absurd c (by decide)) (fun _ => ?_)
      refine J_iload_2 dX6_sheet_8 ?_
      refine J_iconst (v := nI 3) dX6_sheet_9 (by decide) ?_
      refine J_cS2i dX6_sheet_10 jmX6_isBelow ms_X6_60 (Nat.le_of_ble_eq_true rfl) (by decide) (c_below hu (by decide)) ?_
      refine J_if_eq (tgt := 22) dX6_sheet_13 (by decide) (fun c => absurd c (by decide)) (fun _ => ?_)
      refine J_iload_3 dX6_sheet_16 ?_
      refine J_bipush (v := nI 60) dX6_sheet_17 (by decide) ?_
      refine J_icmp_le (tgt := 25) dX6_sheet_19 (by decide) (fun c => absurd c (fun z => hb ⟨⟨k, hk, rfl⟩, ⟨u, hu, rfl⟩, z⟩)) (fun _ => ?_)
      refine J_bipush (v := -2) dX6_sheet_22 (by decide) ?_
      exact J_iret dX6_sheet_24 rfl (⟨rfl, rfl⟩)
    · refine J_iload_1 dX6_sheet_0 ?_
      refine J_iconst (v := nI 4) dX6_sheet_1 (by decide) ?_
      refine J_cS2i dX6_sheet_2 jmX6_isBelow ms_X6_60 (Nat.le_of_ble_eq_true rfl) (by decide) (c_below hk (by decide)) ?_
      refine J_if_eq (tgt := 22) dX6_sheet_5 (by decide) (fun c => absurd c (by decide)) (fun _ => ?_)
      refine J_iload_2 dX6_sheet_8 ?_
      refine J_iconst (v := nI 3) dX6_sheet_9 (by decide) ?_
      refine J_cS2i dX6_sheet_10 jmX6_isBelow ms_X6_60 (Nat.le_of_ble_eq_true rfl) (by decide) (c_nbelow hf) ?_
      refine J_if_eq (tgt := 22) dX6_sheet_13 (by decide) (fun _ => ?_) (fun c => absurd (by decide) c)
      refine J_bipush (v := -2) dX6_sheet_22 (by decide) ?_
      exact J_iret dX6_sheet_24 rfl (⟨rfl, rfl⟩)
  · refine J_iload_1 dX6_sheet_0 ?_
    refine J_iconst (v := nI 4) dX6_sheet_1 (by decide) ?_
    refine J_cS2i dX6_sheet_2 jmX6_isBelow ms_X6_60 (Nat.le_of_ble_eq_true rfl) (by decide) (c_nbelow hs) ?_
    refine J_if_eq (tgt := 22) dX6_sheet_5 (by decide) (fun _ => ?_) (fun c => absurd (by decide) c)
    refine J_bipush (v := -2) dX6_sheet_22 (by decide) ?_
    exact J_iret dX6_sheet_24 rfl (⟨rfl, rfl⟩)
theorem c_sheet_size (p : dkAt h D ca xs) {s f : Nat} {m : Int32} (hs : s < 4) (hf : f < 3) (hm : m < 0) : Ct X mX6_sheet 2 [.ref 0, .int (nI s), .int (nI f), .int m] h (fun r h' => r = some (.int (fnd 5)) ∧ DeskAt h' (dSF D 5) ∧ offB h h' 0 51) := by
  have h0 := p.1
  have h60 : m ≤ nI 60 := by
    rw [Int32.le_iff_toInt_le, show (nI 60).toInt = 60 from by decide]
    have := Int32.lt_iff_toInt_lt.mp hm
    rw [Int32.toInt_zero] at this
    omega
  refine Ct_of jmX6_sheet [some (.ref 0), some (.int (nI s)), some (.int (nI f)), some (.int m)] (Nat.le_of_ble_eq_true rfl) rfl ?_
  show J X RX6 cX6_sheet 4 _ (some .int) _ 0 _ _ _
  refine J_iload_1 dX6_sheet_0 ?_
  refine J_iconst (v := nI 4) dX6_sheet_1 (by decide) ?_
  refine J_cS2i dX6_sheet_2 jmX6_isBelow ms_X6_60 (Nat.le_of_ble_eq_true rfl) (by decide) (c_below hs (by decide)) ?_
  refine J_if_eq (tgt := 22) dX6_sheet_5 (by decide) (fun c => absurd c (by decide)) (fun _ => ?_)
  refine J_iload_2 dX6_sheet_8 ?_
  refine J_iconst (v := nI 3) dX6_sheet_9 (by decide) ?_
  refine J_cS2i dX6_sheet_10 jmX6_isBelow ms_X6_60 (Nat.le_of_ble_eq_true rfl) (by decide) (c_below hf (by decide)) ?_
  refine J_if_eq (tgt := 22) dX6_sheet_13 (by decide) (fun c => absurd c (by decide)) (fun _ => ?_)
  refine J_iload_3 dX6_sheet_16 ?_
  refine J_bipush (v := nI 60) dX6_sheet_17 (by decide) ?_
  refine J_icmp_le (tgt := 25) dX6_sheet_19 (by decide) (fun _ => ?_) (fun c => absurd h60 c)
  refine J_iload_3 dX6_sheet_25 ?_
  refine J_if_ge (tgt := 35) dX6_sheet_26 (by decide) (fun c => absurd c (Int32.not_le.mpr hm)) (fun _ => ?_)
  refine J_aload_0 dX6_sheet_29 ?_
  refine J_iconst (v := nI 5) dX6_sheet_30 (by decide) ?_
  refine J_cV1 dX6_sheet_31 jmX6_found mv_X6_105 h0 rfl (Nat.le_of_ble_eq_true rfl) (by decide) (c_found p) (fun r h' q => ?_)
  obtain ⟨rfl, rfl⟩ := q
  exact J_iret dX6_sheet_34 rfl (⟨rfl, ⟨ca, xs, dk_find p (by decide)⟩, offB.rf.hu (by omega) (by omega)⟩)
theorem c_sheet_ok (p : dkAt h D ca xs) {s f m : Nat} (hs : s < 4) (hf : f < 3) (hm : m ≤ 60) : Ct X mX6_sheet 2 [.ref 0, .int (nI s), .int (nI f), .int (nI m)] h (fun r h' => r = some (.int (nI m)) ∧ DeskAt h' (dSH D s (false, f, m, fun _ => 0)) ∧ offB h h' 0 51) := by
  obtain ⟨h0, -, -, -, -, -, ⟨fh, hfh, hfh0⟩, hsh, hrest⟩ := id p
  have hS := hsh s hs
  have hs0 := hS.1
  refine Ct_of jmX6_sheet [some (.ref 0), some (.int (nI s)), some (.int (nI f)), some (.int (nI m))] (Nat.le_of_ble_eq_true rfl) rfl ?_
  show J X RX6 cX6_sheet 4 _ (some .int) _ 0 _ _ _
  refine J_iload_1 dX6_sheet_0 ?_
  refine J_iconst (v := nI 4) dX6_sheet_1 (by decide) ?_
  refine J_cS2i dX6_sheet_2 jmX6_isBelow ms_X6_60 (Nat.le_of_ble_eq_true rfl) (by decide) (c_below hs (by decide)) ?_
  refine J_if_eq (tgt := 22) dX6_sheet_5 (by decide) (fun c => absurd c (by decide)) (fun _ => ?_)
  refine J_iload_2 dX6_sheet_8 ?_
  refine J_iconst (v := nI 3) dX6_sheet_9 (by decide) ?_
  refine J_cS2i dX6_sheet_10 jmX6_isBelow ms_X6_60 (Nat.le_of_ble_eq_true rfl) (by decide) (c_below hf (by decide)) ?_
  refine J_if_eq (tgt := 22) dX6_sheet_13 (by decide) (fun c => absurd c (by decide)) (fun _ => ?_)
  refine J_iload_3 dX6_sheet_16 ?_
  refine J_bipush (v := nI 60) dX6_sheet_17 (by decide) ?_
  refine J_icmp_leN (tgt := 25) dX6_sheet_19 (by decide) (by omega) (by omega) (fun _ => ?_) (fun c => absurd c (by omega))
  refine J_iload_3 dX6_sheet_25 ?_
  refine J_if_geN (tgt := 35) dX6_sheet_26 (by decide) (by omega) ?_
  refine J_aload_0 dX6_sheet_35 ?_
  refine J_get dX6_sheet_36 fl_X6_27 h0 rfl ?_
  refine J_iload_1 dX6_sheet_39 ?_
  refine J_aald dX6_sheet_40 hfh ⟨_, rfl⟩ rfl (by omega) (by omega) (hfh0 s hs) ?_
  refine J_iload_2 dX6_sheet_41 ?_
  refine J_iload_3 dX6_sheet_42 ?_
  refine J_cV2 dX6_sheet_43 jmX4_begin mv_X6_267 hs0 rfl (Nat.le_of_ble_eq_true rfl) (by decide) (c_shBegin hS hf hm) (fun r h' q => ?_)
  obtain ⟨rfl, q1, q2⟩ := q
  refine J_iload_3 dX6_sheet_46 ?_
  exact J_iret dX6_sheet_47 rfl (⟨rfl, ⟨ca, xs, dk_sheet p hs (q2.wide (by omega) (by omega)) q1⟩, q2.wide (by omega) (by omega)⟩)
theorem c_lose_bad {s : Int32} (hb : ¬ (0 ≤ s ∧ s < nI 4)) : CtI X mX6_lose 1 [.ref 0, .int s] h (-2) := by
  refine Ct_of jmX6_lose [some (.ref 0), some (.int s), none] (Nat.le_of_ble_eq_true rfl) rfl ?_
  show J X RX6 cX6_lose 3 _ (some .int) _ 0 _ _ _
  refine J_iload_1 dX6_lose_0 ?_
  refine J_iconst (v := nI 4) dX6_lose_1 (by decide) ?_
  refine J_cS2i dX6_lose_2 jmX6_isBelow ms_X6_60 (Nat.le_of_ble_eq_true rfl) (by decide) (c_nbelow hb) ?_
  refine J_if_ne (tgt := 11) dX6_lose_5 (by decide) (fun c => absurd c (by decide)) (fun _ => ?_)
  refine J_bipush (v := -2) dX6_lose_8 (by decide) ?_
  exact J_iret dX6_lose_10 rfl (⟨rfl, rfl⟩)
theorem c_lose_null (p : dkAt h D ca xs) {s : Nat} (hs : s < 4) (hq : (dsh D s).1 = true) : Ct X mX6_lose 1 [.ref 0, .int (nI s)] h (fun r h' => r = some (.int (fnd 1)) ∧ DeskAt h' (dSF D 1) ∧ offB h h' 0 51) := by
  obtain ⟨h0, -, -, -, -, -, ⟨fh, hfh, hfh0⟩, hsh, hrest⟩ := id p
  have hs0 := (hsh s hs).1
  rw [hq] at hs0
  refine Ct_of jmX6_lose [some (.ref 0), some (.int (nI s)), none] (Nat.le_of_ble_eq_true rfl) rfl ?_
  show J X RX6 cX6_lose 3 _ (some .int) _ 0 _ _ _
  refine J_iload_1 dX6_lose_0 ?_
  refine J_iconst (v := nI 4) dX6_lose_1 (by decide) ?_
  refine J_cS2i dX6_lose_2 jmX6_isBelow ms_X6_60 (Nat.le_of_ble_eq_true rfl) (by decide) (c_below hs (by decide)) ?_
  refine J_if_ne (tgt := 11) dX6_lose_5 (by decide) (fun _ => ?_) (fun c => absurd c (by decide))
  refine J_aload_0 dX6_lose_11 ?_
  refine J_get dX6_lose_12 fl_X6_27 h0 rfl ?_
  refine J_iload_1 dX6_lose_15 ?_
  refine J_aald dX6_lose_16 hfh ⟨_, rfl⟩ rfl (by omega) (by omega) (hfh0 s hs) ?_
  refine J_astore_2 dX6_lose_17 (Nat.le_of_ble_eq_true rfl) rfl ?_
  refine J_aload_2 dX6_lose_18 ?_
  refine J_get dX6_lose_19 fl_X6_101 hs0 rfl ?_
  refine J_if_eq (tgt := 31) dX6_lose_22 (by decide) (fun c => absurd c (by decide)) (fun _ => ?_)
  refine J_aload_0 dX6_lose_25 ?_
  refine J_iconst (v := nI 1) dX6_lose_26 (by decide) ?_
  refine J_cV1 dX6_lose_27 jmX6_found mv_X6_105 h0 rfl (Nat.le_of_ble_eq_true rfl) (by decide) (c_found p) (fun r h' q => ?_)
  obtain ⟨rfl, rfl⟩ := q
  exact J_iret dX6_lose_30 rfl (⟨rfl, ⟨ca, xs, dk_find p (by decide)⟩, offB.rf.hu (by omega) (by omega)⟩)
theorem c_lose_ok (p : dkAt h D ca xs) {s : Nat} (hs : s < 4) (hq : (dsh D s).1 = false) : Ct X mX6_lose 1 [.ref 0, .int (nI s)] h (fun r h' => r = some (.int (nI (dsh D s).2.2.1)) ∧ DeskAt h' (dSH D s (true, (dsh D s).2)) ∧ offB h h' 0 51) := by
  obtain ⟨h0, -, -, -, -, -, ⟨fh, hfh, hfh0⟩, hsh, hrest⟩ := id p
  have hS := hsh s hs
  obtain ⟨hs0, hs1, hs2⟩ := id hS
  rw [hq] at hs0
  refine Ct_of jmX6_lose [some (.ref 0), some (.int (nI s)), none] (Nat.le_of_ble_eq_true rfl) rfl ?_
  show J X RX6 cX6_lose 3 _ (some .int) _ 0 _ _ _
  refine J_iload_1 dX6_lose_0 ?_
  refine J_iconst (v := nI 4) dX6_lose_1 (by decide) ?_
  refine J_cS2i dX6_lose_2 jmX6_isBelow ms_X6_60 (Nat.le_of_ble_eq_true rfl) (by decide) (c_below hs (by decide)) ?_
  refine J_if_ne (tgt := 11) dX6_lose_5 (by decide) (fun _ => ?_) (fun c => absurd c (by decide))
  refine J_aload_0 dX6_lose_11 ?_
  refine J_get dX6_lose_12 fl_X6_27 h0 rfl ?_
  refine J_iload_1 dX6_lose_15 ?_
  refine J_aald dX6_lose_16 hfh ⟨_, rfl⟩ rfl (by omega) (by omega) (hfh0 s hs) ?_
  refine J_astore_2 dX6_lose_17 (Nat.le_of_ble_eq_true rfl) rfl ?_
  refine J_aload_2 dX6_lose_18 ?_
  refine J_get dX6_lose_19 fl_X6_101 hs0 rfl ?_
  refine J_if_eq (tgt := 31) dX6_lose_22 (by decide) (fun _ => ?_) (fun c => absurd (by decide) c)
  refine J_aload_2 dX6_lose_31 ?_
  refine J_iconst (v := nI 1) dX6_lose_32 (by decide) ?_
  refine J_put dX6_lose_33 fp_X6_101 hs0 (Nat.le_of_ble_eq_true rfl) rfl rfl ?_
  refine J_aload_2 dX6_lose_36 ?_
  refine J_get dX6_lose_37 fl_X6_108 (hAt_s hs0.1) rfl ?_
  exact J_iret dX6_lose_40 rfl (⟨rfl, ⟨ca, xs, dk_sheet p hs (offB.rf.hu (by omega) (by omega)) (q := (true, (dsh D s).2)) ⟨hAt_s hs0.1, by obtain ⟨f, z, w⟩ := hs1; exact ⟨f, hAt_ne z (by omega), w⟩, hs2⟩⟩, offB.rf.hu (by omega) (by omega)⟩)
theorem c_put_bad {s f i v : Int32} (hb : ¬ ((∃ k, k < 4 ∧ s = nI k) ∧ ∃ u, u < 3 ∧ f = nI u)) : CtI X mX6_put 2 [.ref 0, .int s, .int f, .int i, .int v] h (-2) := by
  refine Ct_of jmX6_put [some (.ref 0), some (.int s), some (.int f), some (.int i), some (.int v), none] (Nat.le_of_ble_eq_true rfl) rfl ?_
  show J X RX6 cX6_put 6 _ (some .int) _ 0 _ _ _
  rcases ix_cases s 4 (by decide) with ⟨k, hk, rfl⟩ | hs
  · rcases ix_cases f 3 (by decide) with ⟨u, hu, rfl⟩ | hf
    · exact absurd ⟨⟨k, hk, rfl⟩, u, hu, rfl⟩ hb
    · refine J_iload_1 dX6_put_0 ?_
      refine J_iconst (v := nI 4) dX6_put_1 (by decide) ?_
      refine J_cS2i dX6_put_2 jmX6_isBelow ms_X6_60 (Nat.le_of_ble_eq_true rfl) (by decide) (c_below hk (by decide)) ?_
      refine J_if_eq (tgt := 16) dX6_put_5 (by decide) (fun c => absurd c (by decide)) (fun _ => ?_)
      refine J_iload_2 dX6_put_8 ?_
      refine J_iconst (v := nI 3) dX6_put_9 (by decide) ?_
      refine J_cS2i dX6_put_10 jmX6_isBelow ms_X6_60 (Nat.le_of_ble_eq_true rfl) (by decide) (c_nbelow hf) ?_
      refine J_if_ne (tgt := 19) dX6_put_13 (by decide) (fun c => absurd c (by decide)) (fun _ => ?_)
      refine J_bipush (v := -2) dX6_put_16 (by decide) ?_
      exact J_iret dX6_put_18 rfl (⟨rfl, rfl⟩)
  · refine J_iload_1 dX6_put_0 ?_
    refine J_iconst (v := nI 4) dX6_put_1 (by decide) ?_
    refine J_cS2i dX6_put_2 jmX6_isBelow ms_X6_60 (Nat.le_of_ble_eq_true rfl) (by decide) (c_nbelow hs) ?_
    refine J_if_eq (tgt := 16) dX6_put_5 (by decide) (fun _ => ?_) (fun c => absurd (by decide) c)
    refine J_bipush (v := -2) dX6_put_16 (by decide) ?_
    exact J_iret dX6_put_18 rfl (⟨rfl, rfl⟩)
def sFault (D : DS) (s f : Nat) (i : Int32) : Nat := shFault (dsh D s).1 (dsh D s).2.1 (dsh D s).2.2.1 f i
theorem sFault_le (D : DS) (s f : Nat) (i : Int32) : sFault D s f i ≤ 3 := by
  unfold sFault shFault
  split
  · decide
  · split
    · decide
    · split <;> decide
theorem c_put_f (p : dkAt h D ca xs) {s f : Nat} {i v : Int32} (hs : s < 4) (hf : f < 3) (hq : 0 < sFault D s f i) : Ct X mX6_put 2 [.ref 0, .int (nI s), .int (nI f), .int i, .int v] h (fun r h' => r = some (.int (fnd (sFault D s f i))) ∧ DeskAt h' (dSF D (sFault D s f i)) ∧ offB h h' 0 51) := by
  obtain ⟨h0, -, -, -, -, -, ⟨fh, hfh, hfh0⟩, hsh, hrest⟩ := id p
  have hS := hsh s hs
  have hs0 := hS.1
  have hft := c_fault (X := X) hS hf (i := i)
  have hle := sFault_le D s f i
  refine Ct_of jmX6_put [some (.ref 0), some (.int (nI s)), some (.int (nI f)), some (.int i), some (.int v), none] (Nat.le_of_ble_eq_true rfl) rfl ?_
  show J X RX6 cX6_put 6 _ (some .int) _ 0 _ _ _
  refine J_iload_1 dX6_put_0 ?_
  refine J_iconst (v := nI 4) dX6_put_1 (by decide) ?_
  refine J_cS2i dX6_put_2 jmX6_isBelow ms_X6_60 (Nat.le_of_ble_eq_true rfl) (by decide) (c_below hs (by decide)) ?_
  refine J_if_eq (tgt := 16) dX6_put_5 (by decide) (fun c => absurd c (by decide)) (fun _ => ?_)
  refine J_iload_2 dX6_put_8 ?_
  refine J_iconst (v := nI 3) dX6_put_9 (by decide) ?_
  refine J_cS2i dX6_put_10 jmX6_isBelow ms_X6_60 (Nat.le_of_ble_eq_true rfl) (by decide) (c_below hf (by decide)) ?_
  refine J_if_ne (tgt := 19) dX6_put_13 (by decide) (fun _ => ?_) (fun c => absurd c (by decide))
  refine J_aload_0 dX6_put_19 ?_
  refine J_get dX6_put_20 fl_X6_27 h0 rfl ?_
  refine J_iload_1 dX6_put_23 ?_
  refine J_aald dX6_put_24 hfh ⟨_, rfl⟩ rfl (by omega) (by omega) (hfh0 s hs) ?_
  refine J_iload_2 dX6_put_25 ?_
  refine J_iload_3 dX6_put_26 ?_
  refine J_cV2i dX6_put_27 jmX4_fault mv_X6_269 hs0 rfl (Nat.le_of_ble_eq_true rfl) (by decide) (hft) ?_
  refine J_istore_5 dX6_put_30 (Nat.le_of_ble_eq_true rfl) rfl ?_
  refine J_iload_5 dX6_put_32 ?_
  refine J_if_eqN (a := sFault D s f i) (tgt := 44) dX6_put_34 (by decide) (by omega) (fun c => absurd c (by omega)) (fun _ => ?_)
  refine J_aload_0 dX6_put_37 ?_
  refine J_iload_5 dX6_put_38 ?_
  refine J_cV1 dX6_put_40 jmX6_found mv_X6_105 h0 rfl (Nat.le_of_ble_eq_true rfl) (by decide) (c_found p (k := sFault D s f i)) (fun r h' q => ?_)
  obtain ⟨rfl, rfl⟩ := q
  exact J_iret dX6_put_43 rfl (⟨rfl, ⟨ca, xs, dk_find p (by omega)⟩, offB.rf.hu (by omega) (by omega)⟩)
theorem sFault_0 {D : DS} {s f : Nat} {i : Int32} (h : sFault D s f i = 0) (hn : (dsh D s).2.2.1 ≤ 60) : (dsh D s).1 = false ∧ (dsh D s).2.1 = f ∧ ∃ j, j < (dsh D s).2.2.1 ∧ i = nI j := by
  unfold sFault shFault at h
  split at h
  · cases h
  · rename_i a
    split at h
    · cases h
    · rename_i b
      split at h
      · rename_i c
        refine ⟨by simpa using a, Decidable.byContradiction b, ?_⟩
        rcases ix_cases i (dsh D s).2.2.1 (by omega) with z | z
        · exact z
        · exact absurd c z
      · cases h
theorem c_put_ok (p : dkAt h D ca xs) {s f j : Nat} {v : Int32} (hs : s < 4) (hf : f < 3) (hq : sFault D s f (nI j) = 0) (hj : j < (dsh D s).2.2.1) : Ct X mX6_put 2 [.ref 0, .int (nI s), .int (nI f), .int (nI j), .int v] h (fun r h' => r = some (.int 1) ∧ DeskAt h' (dSH D s ((dsh D s).1, (dsh D s).2.1, (dsh D s).2.2.1, upd (dsh D s).2.2.2 j (nar (dsh D s).2.1 v))) ∧ offB h h' 0 51) := by
  obtain ⟨h0, -, -, -, -, -, ⟨fh, hfh, hfh0⟩, hsh, hrest⟩ := id p
  have hS := hsh s hs
  have hs0 := hS.1
  have hft := c_fault (X := X) hS hf (i := nI j)
  rw [show shFault (dsh D s).1 (dsh D s).2.1 (dsh D s).2.2.1 f (nI j) = 0 from hq] at hft
  refine Ct_of jmX6_put [some (.ref 0), some (.int (nI s)), some (.int (nI f)), some (.int (nI j)), some (.int v), none] (Nat.le_of_ble_eq_true rfl) rfl ?_
  show J X RX6 cX6_put 6 _ (some .int) _ 0 _ _ _
  refine J_iload_1 dX6_put_0 ?_
  refine J_iconst (v := nI 4) dX6_put_1 (by decide) ?_
  refine J_cS2i dX6_put_2 jmX6_isBelow ms_X6_60 (Nat.le_of_ble_eq_true rfl) (by decide) (c_below hs (by decide)) ?_
  refine J_if_eq (tgt := 16) dX6_put_5 (by decide) (fun c => absurd c (by decide)) (fun _ => ?_)
  refine J_iload_2 dX6_put_8 ?_
  refine J_iconst (v := nI 3) dX6_put_9 (by decide) ?_
  refine J_cS2i dX6_put_10 jmX6_isBelow ms_X6_60 (Nat.le_of_ble_eq_true rfl) (by decide) (c_below hf (by decide)) ?_
  refine J_if_ne (tgt := 19) dX6_put_13 (by decide) (fun _ => ?_) (fun c => absurd c (by decide))
  refine J_aload_0 dX6_put_19 ?_
  refine J_get dX6_put_20 fl_X6_27 h0 rfl ?_
  refine J_iload_1 dX6_put_23 ?_
  refine J_aald dX6_put_24 hfh ⟨_, rfl⟩ rfl (by omega) (by omega) (hfh0 s hs) ?_
  refine J_iload_2 dX6_put_25 ?_
  refine J_iload_3 dX6_put_26 ?_
  refine J_cV2i dX6_put_27 jmX4_fault mv_X6_269 hs0 rfl (Nat.le_of_ble_eq_true rfl) (by decide) (hft) ?_
  refine J_istore_5 dX6_put_30 (Nat.le_of_ble_eq_true rfl) rfl ?_
  refine J_iload_5 dX6_put_32 ?_
  refine J_if_eq (tgt := 44) dX6_put_34 (by decide) (fun _ => ?_) (fun c => absurd (by decide) c)
  refine J_aload_0 dX6_put_44 ?_
  refine J_get dX6_put_45 fl_X6_27 h0 rfl ?_
  refine J_iload_1 dX6_put_48 ?_
  refine J_aald dX6_put_49 hfh ⟨_, rfl⟩ rfl (by omega) (by omega) (hfh0 s hs) ?_
  refine J_iload_3 dX6_put_50 ?_
  refine J_iload_4 dX6_put_51 ?_
  refine J_cV2 dX6_put_53 jmX4_store mv_X6_272 hs0 rfl (Nat.le_of_ble_eq_true rfl) (by decide) (c_store hS hj (v := v)) (fun r h' q => ?_)
  obtain ⟨rfl, q1, q2⟩ := q
  refine J_iconst (v := nI 1) dX6_put_56 (by decide) ?_
  exact J_iret dX6_put_57 rfl (⟨rfl, ⟨ca, xs, dk_sheet p hs (q2.wide (by omega) (by omega)) (q := ((dsh D s).1, (dsh D s).2.1, (dsh D s).2.2.1, upd (dsh D s).2.2.2 j (nar (dsh D s).2.1 v))) q1⟩, q2.wide (by omega) (by omega)⟩)
theorem c_get_bad {s f i : Int32} (hb : ¬ ((∃ k, k < 4 ∧ s = nI k) ∧ ∃ u, u < 3 ∧ f = nI u)) : CtI X mX6_get 2 [.ref 0, .int s, .int f, .int i] h (-2147483648) := by
  refine Ct_of jmX6_get [some (.ref 0), some (.int s), some (.int f), some (.int i), none] (Nat.le_of_ble_eq_true rfl) rfl ?_
  show J X RX6 cX6_get 5 _ (some .int) _ 0 _ _ _
  rcases ix_cases s 4 (by decide) with ⟨k, hk, rfl⟩ | hs
  · rcases ix_cases f 3 (by decide) with ⟨u, hu, rfl⟩ | hf
    · exact absurd ⟨⟨k, hk, rfl⟩, u, hu, rfl⟩ hb
    · refine J_iload_1 dX6_get_0 ?_
      refine J_iconst (v := nI 4) dX6_get_1 (by decide) ?_
      refine J_cS2i dX6_get_2 jmX6_isBelow ms_X6_60 (Nat.le_of_ble_eq_true rfl) (by decide) (c_below hk (by decide)) ?_
      refine J_if_eq (tgt := 16) dX6_get_5 (by decide) (fun c => absurd c (by decide)) (fun _ => ?_)
      refine J_iload_2 dX6_get_8 ?_
      refine J_iconst (v := nI 3) dX6_get_9 (by decide) ?_
      refine J_cS2i dX6_get_10 jmX6_isBelow ms_X6_60 (Nat.le_of_ble_eq_true rfl) (by decide) (c_nbelow hf) ?_
      refine J_if_ne (tgt := 20) dX6_get_13 (by decide) (fun c => absurd c (by decide)) (fun _ => ?_)
      refine J_ldc_w dX6_get_16 kc_X6_275 ?_
      exact J_iret dX6_get_19 rfl (⟨rfl, rfl⟩)
  · refine J_iload_1 dX6_get_0 ?_
    refine J_iconst (v := nI 4) dX6_get_1 (by decide) ?_
    refine J_cS2i dX6_get_2 jmX6_isBelow ms_X6_60 (Nat.le_of_ble_eq_true rfl) (by decide) (c_nbelow hs) ?_
    refine J_if_eq (tgt := 16) dX6_get_5 (by decide) (fun _ => ?_) (fun c => absurd (by decide) c)
    refine J_ldc_w dX6_get_16 kc_X6_275 ?_
    exact J_iret dX6_get_19 rfl (⟨rfl, rfl⟩)
theorem c_get_f (p : dkAt h D ca xs) {s f : Nat} {i : Int32} (hs : s < 4) (hf : f < 3) (hq : 0 < sFault D s f i) : Ct X mX6_get 2 [.ref 0, .int (nI s), .int (nI f), .int i] h (fun r h' => r = some (.int (-2147483648)) ∧ DeskAt h' (dSF D (sFault D s f i)) ∧ offB h h' 0 51) := by
  obtain ⟨h0, -, -, -, -, -, ⟨fh, hfh, hfh0⟩, hsh, hrest⟩ := id p
  have hS := hsh s hs
  have hs0 := hS.1
  have hft := c_fault (X := X) hS hf (i := i)
  have hle := sFault_le D s f i
  refine Ct_of jmX6_get [some (.ref 0), some (.int (nI s)), some (.int (nI f)), some (.int i), none] (Nat.le_of_ble_eq_true rfl) rfl ?_
  show J X RX6 cX6_get 5 _ (some .int) _ 0 _ _ _
  refine J_iload_1 dX6_get_0 ?_
  refine J_iconst (v := nI 4) dX6_get_1 (by decide) ?_
  refine J_cS2i dX6_get_2 jmX6_isBelow ms_X6_60 (Nat.le_of_ble_eq_true rfl) (by decide) (c_below hs (by decide)) ?_
  refine J_if_eq (tgt := 16) dX6_get_5 (by decide) (fun c => absurd c (by decide)) (fun _ => ?_)
  refine J_iload_2 dX6_get_8 ?_
  refine J_iconst (v := nI 3) dX6_get_9 (by decide) ?_
  refine J_cS2i dX6_get_10 jmX6_isBelow ms_X6_60 (Nat.le_of_ble_eq_true rfl) (by decide) (c_below hf (by decide)) ?_
  refine J_if_ne (tgt := 20) dX6_get_13 (by decide) (fun _ => ?_) (fun c => absurd c (by decide))
  refine J_aload_0 dX6_get_20 ?_
  refine J_get dX6_get_21 fl_X6_27 h0 rfl ?_
  refine J_iload_1 dX6_get_24 ?_
  refine J_aald dX6_get_25 hfh ⟨_, rfl⟩ rfl (by omega) (by omega) (hfh0 s hs) ?_
  refine J_iload_2 dX6_get_26 ?_
  refine J_iload_3 dX6_get_27 ?_
  refine J_cV2i dX6_get_28 jmX4_fault mv_X6_269 hs0 rfl (Nat.le_of_ble_eq_true rfl) (by decide) (hft) ?_
  refine J_istore_4 dX6_get_31 (Nat.le_of_ble_eq_true rfl) rfl ?_
  refine J_iload_4 dX6_get_33 ?_
  refine J_if_eqN (a := sFault D s f i) (tgt := 48) dX6_get_35 (by decide) (by omega) (fun c => absurd c (by omega)) (fun _ => ?_)
  refine J_aload_0 dX6_get_38 ?_
  refine J_iload_4 dX6_get_39 ?_
  refine J_put dX6_get_41 fp_X6_122 h0 (Nat.le_of_ble_eq_true rfl) rfl rfl ?_
  refine J_ldc_w dX6_get_44 kc_X6_275 ?_
  exact J_iret dX6_get_47 rfl (⟨rfl, ⟨ca, xs, dk_find p (f := sFault D s f i) (by omega)⟩, offB.rf.hu (by omega) (by omega)⟩)
theorem c_get_ok (p : dkAt h D ca xs) {s f j : Nat} (hs : s < 4) (hf : f < 3) (hq : sFault D s f (nI j) = 0) (hj : j < (dsh D s).2.2.1) : CtI X mX6_get 2 [.ref 0, .int (nI s), .int (nI f), .int (nI j)] h ((dsh D s).2.2.2 j) := by
  obtain ⟨h0, -, -, -, -, -, ⟨fh, hfh, hfh0⟩, hsh, hrest⟩ := id p
  have hS := hsh s hs
  have hs0 := hS.1
  have hft := c_fault (X := X) hS hf (i := nI j)
  rw [show shFault (dsh D s).1 (dsh D s).2.1 (dsh D s).2.2.1 f (nI j) = 0 from hq] at hft
  refine Ct_of jmX6_get [some (.ref 0), some (.int (nI s)), some (.int (nI f)), some (.int (nI j)), none] (Nat.le_of_ble_eq_true rfl) rfl ?_
  show J X RX6 cX6_get 5 _ (some .int) _ 0 _ _ _
  refine J_iload_1 dX6_get_0 ?_
  refine J_iconst (v := nI 4) dX6_get_1 (by decide) ?_
  refine J_cS2i dX6_get_2 jmX6_isBelow ms_X6_60 (Nat.le_of_ble_eq_true rfl) (by decide) (c_below hs (by decide)) ?_
  refine J_if_eq (tgt := 16) dX6_get_5 (by decide) (fun c => absurd c (by decide)) (fun _ => ?_)
  refine J_iload_2 dX6_get_8 ?_
  refine J_iconst (v := nI 3) dX6_get_9 (by decide) ?_
  refine J_cS2i dX6_get_10 jmX6_isBelow ms_X6_60 (Nat.le_of_ble_eq_true rfl) (by decide) (c_below hf (by decide)) ?_
  refine J_if_ne (tgt := 20) dX6_get_13 (by decide) (fun _ => ?_) (fun c => absurd c (by decide))
  refine J_aload_0 dX6_get_20 ?_
  refine J_get dX6_get_21 fl_X6_27 h0 rfl ?_
  refine J_iload_1 dX6_get_24 ?_
  refine J_aald dX6_get_25 hfh ⟨_, rfl⟩ rfl (by omega) (by omega) (hfh0 s hs) ?_
  refine J_iload_2 dX6_get_26 ?_
  refine J_iload_3 dX6_get_27 ?_
  refine J_cV2i dX6_get_28 jmX4_fault mv_X6_269 hs0 rfl (Nat.le_of_ble_eq_true rfl) (by decide) (hft) ?_
  refine J_istore_4 dX6_get_31 (Nat.le_of_ble_eq_true rfl) rfl ?_
  refine J_iload_4 dX6_get_33 ?_
  refine J_if_eq (tgt := 48) dX6_get_35 (by decide) (fun _ => ?_) (fun c => absurd (by decide) c)
  refine J_aload_0 dX6_get_48 ?_
  refine J_get dX6_get_49 fl_X6_27 h0 rfl ?_
  refine J_iload_1 dX6_get_52 ?_
  refine J_aald dX6_get_53 hfh ⟨_, rfl⟩ rfl (by omega) (by omega) (hfh0 s hs) ?_
  refine J_iload_3 dX6_get_54 ?_
  refine J_cV1i dX6_get_55 jmX4_item mv_X6_113 hs0 rfl (Nat.le_of_ble_eq_true rfl) (by decide) (c_item hS hj) ?_
  exact J_iret dX6_get_58 rfl (⟨rfl, rfl⟩)
theorem c_copy_bad {s i t j m : Int32} (hb : ¬ ((∃ k, k < 4 ∧ s = nI k) ∧ ∃ u, u < 4 ∧ t = nI u)) : CtI X mX6_copy 1 [.ref 0, .int s, .int i, .int t, .int j, .int m] h (-2) := by
  refine Ct_of jmX6_copy [some (.ref 0), some (.int s), some (.int i), some (.int t), some (.int j), some (.int m), none, none] (Nat.le_of_ble_eq_true rfl) rfl ?_
  show J X RX6 cX6_copy 8 _ (some .int) _ 0 _ _ _
  rcases ix_cases s 4 (by decide) with ⟨k, hk, rfl⟩ | hs
  · rcases ix_cases t 4 (by decide) with ⟨u, hu, rfl⟩ | hf
    · exact absurd ⟨⟨k, hk, rfl⟩, u, hu, rfl⟩ hb
    · refine J_iload_1 dX6_copy_0 ?_
      refine J_iconst (v := nI 4) dX6_copy_1 (by decide) ?_
      refine J_cS2i dX6_copy_2 jmX6_isBelow ms_X6_60 (Nat.le_of_ble_eq_true rfl) (by decide) (c_below hk (by decide)) ?_
      refine J_if_eq (tgt := 16) dX6_copy_5 (by decide) (fun c => absurd c (by decide)) (fun _ => ?_)
      refine J_iload_3 dX6_copy_8 ?_
      refine J_iconst (v := nI 4) dX6_copy_9 (by decide) ?_
      refine J_cS2i dX6_copy_10 jmX6_isBelow ms_X6_60 (Nat.le_of_ble_eq_true rfl) (by decide) (c_nbelow hf) ?_
      refine J_if_ne (tgt := 19) dX6_copy_13 (by decide) (fun c => absurd c (by decide)) (fun _ => ?_)
      refine J_bipush (v := -2) dX6_copy_16 (by decide) ?_
      exact J_iret dX6_copy_18 rfl (⟨rfl, rfl⟩)
  · refine J_iload_1 dX6_copy_0 ?_
    refine J_iconst (v := nI 4) dX6_copy_1 (by decide) ?_
    refine J_cS2i dX6_copy_2 jmX6_isBelow ms_X6_60 (Nat.le_of_ble_eq_true rfl) (by decide) (c_nbelow hs) ?_
    refine J_if_eq (tgt := 16) dX6_copy_5 (by decide) (fun _ => ?_) (fun c => absurd (by decide) c)
    refine J_bipush (v := -2) dX6_copy_16 (by decide) ?_
    exact J_iret dX6_copy_18 rfl (⟨rfl, rfl⟩)
theorem bz (b : Bool) : (if b then (1 : Int32) else 0) = 0 ↔ b = false := by cases b <;> decide
/-- which finding copy meets: 1 NULL, 4 STORE, 2 INDEX -/
theorem c_copy_f (p : dkAt h D ca xs) {s t q : Nat} {i j m : Int32} (hs : s < 4) (ht : t < 4) (hq : (q = 1 ∧ ((dsh D s).1 = true ∨ (dsh D t).1 = true)) ∨ ((dsh D s).1 = false ∧ (dsh D t).1 = false ∧ ((q = 4 ∧ ¬ (dsh D s).2.1 = (dsh D t).2.1) ∨ (q = 2 ∧ (dsh D s).2.1 = (dsh D t).2.1 ∧ ((¬ ∃ a b, i = nI a ∧ m = nI b ∧ a + b ≤ (dsh D s).2.2.1) ∨ (¬ ∃ a b, j = nI a ∧ m = nI b ∧ a + b ≤ (dsh D t).2.2.1)))))) : Ct X mX6_copy 1 [.ref 0, .int (nI s), .int i, .int (nI t), .int j, .int m] h (fun r h' => r = some (.int (fnd q)) ∧ DeskAt h' (dSF D q) ∧ offB h h' 0 51) := by
  obtain ⟨h0, -, -, -, -, -, ⟨fh, hfh, hfh0⟩, hsh, hrest⟩ := id p
  have hS := hsh s hs
  have hT := hsh t ht
  have hs0 := hS.1
  have ht0 := hT.1
  have fm1 := hS.2.2.1
  have fm2 := hT.2.2.1
  refine Ct_of jmX6_copy [some (.ref 0), some (.int (nI s)), some (.int i), some (.int (nI t)), some (.int j), some (.int m), none, none] (Nat.le_of_ble_eq_true rfl) rfl ?_
  show J X RX6 cX6_copy 8 _ (some .int) _ 0 _ _ _
  rcases hq with ⟨rfl, hl⟩ | ⟨l1, l2, hr⟩
  · by_cases l1 : (dsh D s).1 = true
    · rw [l1] at hs0
      refine J_iload_1 dX6_copy_0 ?_
      refine J_iconst (v := nI 4) dX6_copy_1 (by decide) ?_
      refine J_cS2i dX6_copy_2 jmX6_isBelow ms_X6_60 (Nat.le_of_ble_eq_true rfl) (by decide) (c_below hs (by decide)) ?_
      refine J_if_eq (tgt := 16) dX6_copy_5 (by decide) (fun c => absurd c (by decide)) (fun _ => ?_)
      refine J_iload_3 dX6_copy_8 ?_
      refine J_iconst (v := nI 4) dX6_copy_9 (by decide) ?_
      refine J_cS2i dX6_copy_10 jmX6_isBelow ms_X6_60 (Nat.le_of_ble_eq_true rfl) (by decide) (c_below ht (by decide)) ?_
      refine J_if_ne (tgt := 19) dX6_copy_13 (by decide) (fun _ => ?_) (fun c => absurd c (by decide))
      refine J_aload_0 dX6_copy_19 ?_
      refine J_get dX6_copy_20 fl_X6_27 h0 rfl ?_
      refine J_iload_1 dX6_copy_23 ?_
      refine J_aald dX6_copy_24 hfh ⟨_, rfl⟩ rfl (by omega) (by omega) (hfh0 s hs) ?_
      refine J_astore_6 dX6_copy_25 (Nat.le_of_ble_eq_true rfl) rfl ?_
      refine J_aload_0 dX6_copy_27 ?_
      refine J_get dX6_copy_28 fl_X6_27 h0 rfl ?_
      refine J_iload_3 dX6_copy_31 ?_
      refine J_aald dX6_copy_32 hfh ⟨_, rfl⟩ rfl (by omega) (by omega) (hfh0 t ht) ?_
      refine J_astore_7 dX6_copy_33 (Nat.le_of_ble_eq_true rfl) rfl ?_
      refine J_aload_6 dX6_copy_35 ?_
      refine J_get dX6_copy_37 fl_X6_101 hs0 rfl ?_
      refine J_if_ne (tgt := 51) dX6_copy_40 (by decide) (fun _ => ?_) (fun c => absurd c (by decide))
      refine J_aload_0 dX6_copy_51 ?_
      refine J_iconst (v := nI 1) dX6_copy_52 (by decide) ?_
      refine J_cV1 dX6_copy_53 jmX6_found mv_X6_105 h0 rfl (Nat.le_of_ble_eq_true rfl) (by decide) (c_found p) (fun r h' q => ?_)
      obtain ⟨rfl, rfl⟩ := q
      exact J_iret dX6_copy_56 rfl (⟨rfl, ⟨ca, xs, dk_find p (by decide)⟩, offB.rf.hu (by omega) (by omega)⟩)
    · have l2 : (dsh D t).1 = true := hl.elim (fun z => absurd z l1) id
      have l1 : (dsh D s).1 = false := by simpa using l1
      rw [l1] at hs0
      rw [l2] at ht0
      refine J_iload_1 dX6_copy_0 ?_
      refine J_iconst (v := nI 4) dX6_copy_1 (by decide) ?_
      refine J_cS2i dX6_copy_2 jmX6_isBelow ms_X6_60 (Nat.le_of_ble_eq_true rfl) (by decide) (c_below hs (by decide)) ?_
      refine J_if_eq (tgt := 16) dX6_copy_5 (by decide) (fun c => absurd c (by decide)) (fun _ => ?_)
      refine J_iload_3 dX6_copy_8 ?_
      refine J_iconst (v := nI 4) dX6_copy_9 (by decide) ?_
      refine J_cS2i dX6_copy_10 jmX6_isBelow ms_X6_60 (Nat.le_of_ble_eq_true rfl) (by decide) (c_below ht (by decide)) ?_
      refine J_if_ne (tgt := 19) dX6_copy_13 (by decide) (fun _ => ?_) (fun c => absurd c (by decide))
      refine J_aload_0 dX6_copy_19 ?_
      refine J_get dX6_copy_20 fl_X6_27 h0 rfl ?_
      refine J_iload_1 dX6_copy_23 ?_
      refine J_aald dX6_copy_24 hfh ⟨_, rfl⟩ rfl (by omega) (by omega) (hfh0 s hs) ?_
      refine J_astore_6 dX6_copy_25 (Nat.le_of_ble_eq_true rfl) rfl ?_
      refine J_aload_0 dX6_copy_27 ?_
      refine J_get dX6_copy_28 fl_X6_27 h0 rfl ?_
      refine J_iload_3 dX6_copy_31 ?_
      refine J_aald dX6_copy_32 hfh ⟨_, rfl⟩ rfl (by omega) (by omega) (hfh0 t ht) ?_
      refine J_astore_7 dX6_copy_33 (Nat.le_of_ble_eq_true rfl) rfl ?_
      refine J_aload_6 dX6_copy_35 ?_
      refine J_get dX6_copy_37 fl_X6_101 hs0 rfl ?_
      refine J_if_ne (tgt := 51) dX6_copy_40 (by decide) (fun c => absurd c (fun z => z rfl)) (fun _ => ?_)
      refine J_aload_7 dX6_copy_43 ?_
      refine J_get dX6_copy_45 fl_X6_101 ht0 rfl ?_
      refine J_if_eq (tgt := 57) dX6_copy_48 (by decide) (fun c => absurd c (by decide)) (fun _ => ?_)
      refine J_aload_0 dX6_copy_51 ?_
      refine J_iconst (v := nI 1) dX6_copy_52 (by decide) ?_
      refine J_cV1 dX6_copy_53 jmX6_found mv_X6_105 h0 rfl (Nat.le_of_ble_eq_true rfl) (by decide) (c_found p) (fun r h' q => ?_)
      obtain ⟨rfl, rfl⟩ := q
      exact J_iret dX6_copy_56 rfl (⟨rfl, ⟨ca, xs, dk_find p (by decide)⟩, offB.rf.hu (by omega) (by omega)⟩)
  · rw [l1] at hs0
    rw [l2] at ht0
    rcases hr with ⟨rfl, hf⟩ | ⟨rfl, hf, hx⟩
    · refine J_iload_1 dX6_copy_0 ?_
      refine J_iconst (v := nI 4) dX6_copy_1 (by decide) ?_
      refine J_cS2i dX6_copy_2 jmX6_isBelow ms_X6_60 (Nat.le_of_ble_eq_true rfl) (by decide) (c_below hs (by decide)) ?_
      refine J_if_eq (tgt := 16) dX6_copy_5 (by decide) (fun c => absurd c (by decide)) (fun _ => ?_)
      refine J_iload_3 dX6_copy_8 ?_
      refine J_iconst (v := nI 4) dX6_copy_9 (by decide) ?_
      refine J_cS2i dX6_copy_10 jmX6_isBelow ms_X6_60 (Nat.le_of_ble_eq_true rfl) (by decide) (c_below ht (by decide)) ?_
      refine J_if_ne (tgt := 19) dX6_copy_13 (by decide) (fun _ => ?_) (fun c => absurd c (by decide))
      refine J_aload_0 dX6_copy_19 ?_
      refine J_get dX6_copy_20 fl_X6_27 h0 rfl ?_
      refine J_iload_1 dX6_copy_23 ?_
      refine J_aald dX6_copy_24 hfh ⟨_, rfl⟩ rfl (by omega) (by omega) (hfh0 s hs) ?_
      refine J_astore_6 dX6_copy_25 (Nat.le_of_ble_eq_true rfl) rfl ?_
      refine J_aload_0 dX6_copy_27 ?_
      refine J_get dX6_copy_28 fl_X6_27 h0 rfl ?_
      refine J_iload_3 dX6_copy_31 ?_
      refine J_aald dX6_copy_32 hfh ⟨_, rfl⟩ rfl (by omega) (by omega) (hfh0 t ht) ?_
      refine J_astore_7 dX6_copy_33 (Nat.le_of_ble_eq_true rfl) rfl ?_
      refine J_aload_6 dX6_copy_35 ?_
      refine J_get dX6_copy_37 fl_X6_101 hs0 rfl ?_
      refine J_if_ne (tgt := 51) dX6_copy_40 (by decide) (fun c => absurd c (fun z => z rfl)) (fun _ => ?_)
      refine J_aload_7 dX6_copy_43 ?_
      refine J_get dX6_copy_45 fl_X6_101 ht0 rfl ?_
      refine J_if_eq (tgt := 57) dX6_copy_48 (by decide) (fun _ => ?_) (fun c => absurd (by decide) c)
      refine J_aload_6 dX6_copy_57 ?_
      refine J_get dX6_copy_59 fl_X6_276 hs0 rfl ?_
      refine J_aload_7 dX6_copy_62 ?_
      refine J_get dX6_copy_64 fl_X6_276 ht0 rfl ?_
      refine J_icmp_eqN (tgt := 76) dX6_copy_67 (by decide) (by omega) (by omega) (fun c => absurd c hf) (fun _ => ?_)
      refine J_aload_0 dX6_copy_70 ?_
      refine J_iconst (v := nI 4) dX6_copy_71 (by decide) ?_
      refine J_cV1 dX6_copy_72 jmX6_found mv_X6_105 h0 rfl (Nat.le_of_ble_eq_true rfl) (by decide) (c_found p) (fun r h' q => ?_)
      obtain ⟨rfl, rfl⟩ := q
      exact J_iret dX6_copy_75 rfl (⟨rfl, ⟨ca, xs, dk_find p (by decide)⟩, offB.rf.hu (by omega) (by omega)⟩)
    · by_cases hx1 : ∃ a b, i = nI a ∧ m = nI b ∧ a + b ≤ (dsh D s).2.2.1
      · obtain ⟨a, b, rfl, rfl, hab⟩ := id hx1
        have hx2 := hx.elim (fun z => absurd hx1 z) id
        refine J_iload_1 dX6_copy_0 ?_
        refine J_iconst (v := nI 4) dX6_copy_1 (by decide) ?_
        refine J_cS2i dX6_copy_2 jmX6_isBelow ms_X6_60 (Nat.le_of_ble_eq_true rfl) (by decide) (c_below hs (by decide)) ?_
        refine J_if_eq (tgt := 16) dX6_copy_5 (by decide) (fun c => absurd c (by decide)) (fun _ => ?_)
        refine J_iload_3 dX6_copy_8 ?_
        refine J_iconst (v := nI 4) dX6_copy_9 (by decide) ?_
        refine J_cS2i dX6_copy_10 jmX6_isBelow ms_X6_60 (Nat.le_of_ble_eq_true rfl) (by decide) (c_below ht (by decide)) ?_
        refine J_if_ne (tgt := 19) dX6_copy_13 (by decide) (fun _ => ?_) (fun c => absurd c (by decide))
        refine J_aload_0 dX6_copy_19 ?_
        refine J_get dX6_copy_20 fl_X6_27 h0 rfl ?_
        refine J_iload_1 dX6_copy_23 ?_
        refine J_aald dX6_copy_24 hfh ⟨_, rfl⟩ rfl (by omega) (by omega) (hfh0 s hs) ?_
        refine J_astore_6 dX6_copy_25 (Nat.le_of_ble_eq_true rfl) rfl ?_
        refine J_aload_0 dX6_copy_27 ?_
        refine J_get dX6_copy_28 fl_X6_27 h0 rfl ?_
        refine J_iload_3 dX6_copy_31 ?_
        refine J_aald dX6_copy_32 hfh ⟨_, rfl⟩ rfl (by omega) (by omega) (hfh0 t ht) ?_
        refine J_astore_7 dX6_copy_33 (Nat.le_of_ble_eq_true rfl) rfl ?_
        refine J_aload_6 dX6_copy_35 ?_
        refine J_get dX6_copy_37 fl_X6_101 hs0 rfl ?_
        refine J_if_ne (tgt := 51) dX6_copy_40 (by decide) (fun c => absurd c (fun z => z rfl)) (fun _ => ?_)
        refine J_aload_7 dX6_copy_43 ?_
        refine J_get dX6_copy_45 fl_X6_101 ht0 rfl ?_
        refine J_if_eq (tgt := 57) dX6_copy_48 (by decide) (fun _ => ?_) (fun c => absurd (by decide) c)
        refine J_aload_6 dX6_copy_57 ?_
        refine J_get dX6_copy_59 fl_X6_276 hs0 rfl ?_
        refine J_aload_7 dX6_copy_62 ?_
        refine J_get dX6_copy_64 fl_X6_276 ht0 rfl ?_
        refine J_icmp_eqN (tgt := 76) dX6_copy_67 (by decide) (by omega) (by omega) (fun _ => ?_) (fun c => absurd c (fun z => z hf))
        refine J_aload_6 dX6_copy_76 ?_
        refine J_iload_2 dX6_copy_78 ?_
        refine J_iload_5 dX6_copy_79 ?_
        refine J_cV2i dX6_copy_81 jmX4_hasItems mv_X6_279 hs0 rfl (Nat.le_of_ble_eq_true rfl) (by decide) (c_hasT hS hab) ?_
        refine J_if_eq (tgt := 99) dX6_copy_84 (by decide) (fun c => absurd c (by decide)) (fun _ => ?_)
        refine J_aload_7 dX6_copy_87 ?_
        refine J_iload_4 dX6_copy_89 ?_
        refine J_iload_5 dX6_copy_91 ?_
        refine J_cV2i dX6_copy_93 jmX4_hasItems mv_X6_279 ht0 rfl (Nat.le_of_ble_eq_true rfl) (by decide) (c_hasF hT hx2) ?_
        refine J_if_ne (tgt := 105) dX6_copy_96 (by decide) (fun c => absurd c (by decide)) (fun _ => ?_)
        refine J_aload_0 dX6_copy_99 ?_
        refine J_iconst (v := nI 2) dX6_copy_100 (by decide) ?_
        refine J_cV1 dX6_copy_101 jmX6_found mv_X6_105 h0 rfl (Nat.le_of_ble_eq_true rfl) (by decide) (c_found p) (fun r h' q => ?_)
        obtain ⟨rfl, rfl⟩ := q
        exact J_iret dX6_copy_104 rfl (⟨rfl, ⟨ca, xs, dk_find p (by decide)⟩, offB.rf.hu (by omega) (by omega)⟩)
      · refine J_iload_1 dX6_copy_0 ?_
        refine J_iconst (v := nI 4) dX6_copy_1 (by decide) ?_
        refine J_cS2i dX6_copy_2 jmX6_isBelow ms_X6_60 (Nat.le_of_ble_eq_true rfl) (by decide) (c_below hs (by decide)) ?_
        refine J_if_eq (tgt := 16) dX6_copy_5 (by decide) (fun c => absurd c (by decide)) (fun _ => ?_)
        refine J_iload_3 dX6_copy_8 ?_
        refine J_iconst (v := nI 4) dX6_copy_9 (by decide) ?_
        refine J_cS2i dX6_copy_10 jmX6_isBelow ms_X6_60 (Nat.le_of_ble_eq_true rfl) (by decide) (c_below ht (by decide)) ?_
        refine J_if_ne (tgt := 19) dX6_copy_13 (by decide) (fun _ => ?_) (fun c => absurd c (by decide))
        refine J_aload_0 dX6_copy_19 ?_
        refine J_get dX6_copy_20 fl_X6_27 h0 rfl ?_
        refine J_iload_1 dX6_copy_23 ?_
        refine J_aald dX6_copy_24 hfh ⟨_, rfl⟩ rfl (by omega) (by omega) (hfh0 s hs) ?_
        refine J_astore_6 dX6_copy_25 (Nat.le_of_ble_eq_true rfl) rfl ?_
        refine J_aload_0 dX6_copy_27 ?_
        refine J_get dX6_copy_28 fl_X6_27 h0 rfl ?_
        refine J_iload_3 dX6_copy_31 ?_
        refine J_aald dX6_copy_32 hfh ⟨_, rfl⟩ rfl (by omega) (by omega) (hfh0 t ht) ?_
        refine J_astore_7 dX6_copy_33 (Nat.le_of_ble_eq_true rfl) rfl ?_
        refine J_aload_6 dX6_copy_35 ?_
        refine J_get dX6_copy_37 fl_X6_101 hs0 rfl ?_
        refine J_if_ne (tgt := 51) dX6_copy_40 (by decide) (fun c => absurd c (fun z => z rfl)) (fun _ => ?_)
        refine J_aload_7 dX6_copy_43 ?_
        refine J_get dX6_copy_45 fl_X6_101 ht0 rfl ?_
        refine J_if_eq (tgt := 57) dX6_copy_48 (by decide) (fun _ => ?_) (fun c => absurd (by decide) c)
        refine J_aload_6 dX6_copy_57 ?_
        refine J_get dX6_copy_59 fl_X6_276 hs0 rfl ?_
        refine J_aload_7 dX6_copy_62 ?_
        refine J_get dX6_copy_64 fl_X6_276 ht0 rfl ?_
        refine J_icmp_eqN (tgt := 76) dX6_copy_67 (by decide) (by omega) (by omega) (fun _ => ?_) (fun c => absurd c (fun z => z hf))
        refine J_aload_6 dX6_copy_76 ?_
        refine J_iload_2 dX6_copy_78 ?_
        refine J_iload_5 dX6_copy_79 ?_
        refine J_cV2i dX6_copy_81 jmX4_hasItems mv_X6_279 hs0 rfl (Nat.le_of_ble_eq_true rfl) (by decide) (c_hasF hS hx1) ?_
        refine J_if_eq (tgt := 99) dX6_copy_84 (by decide) (fun _ => ?_) (fun c => absurd (by decide) c)
        refine J_aload_0 dX6_copy_99 ?_
        refine J_iconst (v := nI 2) dX6_copy_100 (by decide) ?_
        refine J_cV1 dX6_copy_101 jmX6_found mv_X6_105 h0 rfl (Nat.le_of_ble_eq_true rfl) (by decide) (c_found p) (fun r h' q => ?_)
        obtain ⟨rfl, rfl⟩ := q
        exact J_iret dX6_copy_104 rfl (⟨rfl, ⟨ca, xs, dk_find p (by decide)⟩, offB.rf.hu (by omega) (by omega)⟩)
theorem c_copy_ok (p : dkAt h D ca xs) {s t i j m : Nat} (hs : s < 4) (ht : t < 4) (l1 : (dsh D s).1 = false) (l2 : (dsh D t).1 = false) (hf : (dsh D s).2.1 = (dsh D t).2.1) (h1 : i + m ≤ (dsh D s).2.2.1) (h2 : j + m ≤ (dsh D t).2.2.1) : Ct X mX6_copy 1 [.ref 0, .int (nI s), .int (nI i), .int (nI t), .int (nI j), .int (nI m)] h (fun r h' => r = some (.int 1) ∧ DeskAt h' (dSH D t (false, (dsh D t).2.1, (dsh D t).2.2.1, va_cpy (dsh D s).2.2.2 (dsh D t).2.2.2 i j m)) ∧ offB h h' 0 51) := by
  obtain ⟨h0, -, -, -, -, -, ⟨fh, hfh, hfh0⟩, hsh, hrest⟩ := id p
  have hS := hsh s hs
  have hT := hsh t ht
  obtain ⟨hs0, ⟨f1, hf1, hff1⟩, fm1, z1⟩ := id hS
  obtain ⟨ht0, ⟨f2, hf2, hff2⟩, fm2, z2⟩ := id hT
  rw [l1] at hs0
  rw [l2] at ht0
  have hok : shAt (hu h (43 + 2 * t + 1) (oA 0 60 (va_cpy f1 f2 i j m))) (43 + 2 * t) false (dsh D t).2.1 (dsh D t).2.2.1 (va_cpy (dsh D s).2.2.2 (dsh D t).2.2.2 i j m) := by
    refine ⟨hAt_ne ht0 (by omega), ⟨_, hAt_s hf2.1, fun k hk => ?_⟩, fm2, z2⟩
    unfold va_cpy
    split
    · exact hff1 _ (by omega)
    · exact hff2 k hk
  refine Ct_of jmX6_copy [some (.ref 0), some (.int (nI s)), some (.int (nI i)), some (.int (nI t)), some (.int (nI j)), some (.int (nI m)), none, none] (Nat.le_of_ble_eq_true rfl) rfl ?_
  show J X RX6 cX6_copy 8 _ (some .int) _ 0 _ _ _
  refine J_iload_1 dX6_copy_0 ?_
  refine J_iconst (v := nI 4) dX6_copy_1 (by decide) ?_
  refine J_cS2i dX6_copy_2 jmX6_isBelow ms_X6_60 (Nat.le_of_ble_eq_true rfl) (by decide) (c_below hs (by decide)) ?_
  refine J_if_eq (tgt := 16) dX6_copy_5 (by decide) (fun c => absurd c (by decide)) (fun _ => ?_)
  refine J_iload_3 dX6_copy_8 ?_
  refine J_iconst (v := nI 4) dX6_copy_9 (by decide) ?_
  refine J_cS2i dX6_copy_10 jmX6_isBelow ms_X6_60 (Nat.le_of_ble_eq_true rfl) (by decide) (c_below ht (by decide)) ?_
  refine J_if_ne (tgt := 19) dX6_copy_13 (by decide) (fun _ => ?_) (fun c => absurd c (by decide))
  refine J_aload_0 dX6_copy_19 ?_
  refine J_get dX6_copy_20 fl_X6_27 h0 rfl ?_
  refine J_iload_1 dX6_copy_23 ?_
  refine J_aald dX6_copy_24 hfh ⟨_, rfl⟩ rfl (by omega) (by omega) (hfh0 s hs) ?_
  refine J_astore_6 dX6_copy_25 (Nat.le_of_ble_eq_true rfl) rfl ?_
  refine J_aload_0 dX6_copy_27 ?_
  refine J_get dX6_copy_28 fl_X6_27 h0 rfl ?_
  refine J_iload_3 dX6_copy_31 ?_
  refine J_aald dX6_copy_32 hfh ⟨_, rfl⟩ rfl (by omega) (by omega) (hfh0 t ht) ?_
  refine J_astore_7 dX6_copy_33 (Nat.le_of_ble_eq_true rfl) rfl ?_
  refine J_aload_6 dX6_copy_35 ?_
  refine J_get dX6_copy_37 fl_X6_101 hs0 rfl ?_
  refine J_if_ne (tgt := 51) dX6_copy_40 (by decide) (fun c => absurd c (fun z => z rfl)) (fun _ => ?_)
  refine J_aload_7 dX6_copy_43 ?_
  refine J_get dX6_copy_45 fl_X6_101 ht0 rfl ?_
  refine J_if_eq (tgt := 57) dX6_copy_48 (by decide) (fun _ => ?_) (fun c => absurd (by decide) c)
  refine J_aload_6 dX6_copy_57 ?_
  refine J_get dX6_copy_59 fl_X6_276 hs0 rfl ?_
  refine J_aload_7 dX6_copy_62 ?_
  refine J_get dX6_copy_64 fl_X6_276 ht0 rfl ?_
  refine J_icmp_eqN (tgt := 76) dX6_copy_67 (by decide) (by omega) (by omega) (fun _ => ?_) (fun c => absurd c (fun z => z hf))
  refine J_aload_6 dX6_copy_76 ?_
  refine J_iload_2 dX6_copy_78 ?_
  refine J_iload_5 dX6_copy_79 ?_
  refine J_cV2i dX6_copy_81 jmX4_hasItems mv_X6_279 hs0 rfl (Nat.le_of_ble_eq_true rfl) (by decide) (c_hasT hS h1) ?_
  refine J_if_eq (tgt := 99) dX6_copy_84 (by decide) (fun c => absurd c (by decide)) (fun _ => ?_)
  refine J_aload_7 dX6_copy_87 ?_
  refine J_iload_4 dX6_copy_89 ?_
  refine J_iload_5 dX6_copy_91 ?_
  refine J_cV2i dX6_copy_93 jmX4_hasItems mv_X6_279 ht0 rfl (Nat.le_of_ble_eq_true rfl) (by decide) (c_hasT hT h2) ?_
  refine J_if_ne (tgt := 105) dX6_copy_96 (by decide) (fun _ => ?_) (fun c => absurd c (by decide))
  refine J_aload_6 dX6_copy_105 ?_
  refine J_get dX6_copy_107 fl_X6_282 hs0 rfl ?_
  refine J_iload_2 dX6_copy_110 ?_
  refine J_aload_7 dX6_copy_111 ?_
  refine J_get dX6_copy_113 fl_X6_282 ht0 rfl ?_
  refine J_iload_4 dX6_copy_116 ?_
  refine J_iload_5 dX6_copy_118 ?_
  refine J_cpy dX6_copy_120 ms_X6_285 (by decide) (Nat.le_of_ble_eq_true rfl) hf1 hf2 (by omega) (by omega) (by decide) (by decide) ?_
  refine J_iconst (v := nI 1) dX6_copy_123 (by decide) ?_
  exact J_iret dX6_copy_124 rfl (⟨rfl, ⟨ca, xs, dk_sheet p ht (offB.rf.hu (by omega) (by omega)) (q := (false, (dsh D t).2.1, (dsh D t).2.2.1, va_cpy (dsh D s).2.2.2 (dsh D t).2.2.2 i j m)) hok⟩, offB.rf.hu (by omega) (by omega)⟩)
/-- PULLS into a SHEET: from item i on, k of them -/
def wrI (g : Nat → Nat → Nat) (form i k : Nat) (it : Nat → Int32) : Nat → Int32 := match k with
  | 0 => it
  | k + 1 => wrI g form (i + 1) k (upd it i (nar form (nI (g (i / 2) (1 + i % 2)))))
theorem wrI_agr {g g' : Nat → Nat → Nat} {form n : Nat} (h : agr n g g') : ∀ (k i : Nat) (it : Nat → Int32), i + k ≤ 2 * n → wrI g form i k it = wrI g' form i k it := by
  intro k
  induction k with
  | zero => intro i it _; rfl
  | succ k ih =>
    intro i it hi
    rw [wrI, wrI, h (i / 2) (by omega), ih _ _ (by omega)]
theorem c_write_bad {l s : Int32} (hb : ¬ ((∃ j, j < 2 ∧ l = nI j) ∧ ∃ k, k < 4 ∧ s = nI k)) : CtI X mX6_write 3 [.ref 0, .int l, .int s] h (-2) := by
  refine Ct_of jmX6_write [some (.ref 0), some (.int l), some (.int s), none, none, none, none] (Nat.le_of_ble_eq_true rfl) rfl ?_
  show J X RX6 cX6_write 7 _ (some .int) _ 0 _ _ _
  rcases ix_cases l 2 (by decide) with ⟨j, hj, rfl⟩ | hl
  · rcases ix_cases s 4 (by decide) with ⟨k, hk, rfl⟩ | hs
    · exact absurd ⟨⟨j, hj, rfl⟩, k, hk, rfl⟩ hb
    · refine J_iload_1 dX6_write_0 ?_
      refine J_iconst (v := nI 2) dX6_write_1 (by decide) ?_
      refine J_cS2i dX6_write_2 jmX6_isBelow ms_X6_60 (Nat.le_of_ble_eq_true rfl) (by decide) (c_below hj (by decide)) ?_
      refine J_if_eq (tgt := 16) dX6_write_5 (by decide) (fun c => absurd c (by decide)) (fun _ => ?_)
      refine J_iload_2 dX6_write_8 ?_
      refine J_iconst (v := nI 4) dX6_write_9 (by decide) ?_
      refine J_cS2i dX6_write_10 jmX6_isBelow ms_X6_60 (Nat.le_of_ble_eq_true rfl) (by decide) (c_nbelow hs) ?_
      refine J_if_ne (tgt := 19) dX6_write_13 (by decide) (fun c => absurd c (by decide)) (fun _ => ?_)
      refine J_bipush (v := -2) dX6_write_16 (by decide) ?_
      exact J_iret dX6_write_18 rfl (⟨rfl, rfl⟩)
  · refine J_iload_1 dX6_write_0 ?_
    refine J_iconst (v := nI 2) dX6_write_1 (by decide) ?_
    refine J_cS2i dX6_write_2 jmX6_isBelow ms_X6_60 (Nat.le_of_ble_eq_true rfl) (by decide) (c_nbelow hl) ?_
    refine J_if_eq (tgt := 16) dX6_write_5 (by decide) (fun _ => ?_) (fun c => absurd (by decide) c)
    refine J_bipush (v := -2) dX6_write_16 (by decide) ?_
    exact J_iret dX6_write_18 rfl (⟨rfl, rfl⟩)
theorem c_write_null (p : dkAt h D ca xs) {l s : Nat} (hl : l < 2) (hs : s < 4) (hq : (dsh D s).1 = true) : Ct X mX6_write 3 [.ref 0, .int (nI l), .int (nI s)] h (fun r h' => r = some (.int (fnd 1)) ∧ DeskAt h' (dSF D 1) ∧ offB h h' 0 51) := by
  obtain ⟨h0, -, -, -, -, -, ⟨fh, hfh, hfh0⟩, hsh, hrest⟩ := id p
  have hS := (hsh s hs).1
  rw [hq] at hS
  refine Ct_of jmX6_write [some (.ref 0), some (.int (nI l)), some (.int (nI s)), none, none, none, none] (Nat.le_of_ble_eq_true rfl) rfl ?_
  show J X RX6 cX6_write 7 _ (some .int) _ 0 _ _ _
  refine J_iload_1 dX6_write_0 ?_
  refine J_iconst (v := nI 2) dX6_write_1 (by decide) ?_
  refine J_cS2i dX6_write_2 jmX6_isBelow ms_X6_60 (Nat.le_of_ble_eq_true rfl) (by decide) (c_below hl (by decide)) ?_
  refine J_if_eq (tgt := 16) dX6_write_5 (by decide) (fun c => absurd c (by decide)) (fun _ => ?_)
  refine J_iload_2 dX6_write_8 ?_
  refine J_iconst (v := nI 4) dX6_write_9 (by decide) ?_
  refine J_cS2i dX6_write_10 jmX6_isBelow ms_X6_60 (Nat.le_of_ble_eq_true rfl) (by decide) (c_below hs (by decide)) ?_
  refine J_if_ne (tgt := 19) dX6_write_13 (by decide) (fun _ => ?_) (fun c => absurd c (by decide))
  refine J_aload_0 dX6_write_19 ?_
  refine J_get dX6_write_20 fl_X6_27 h0 rfl ?_
  refine J_iload_2 dX6_write_23 ?_
  refine J_aald dX6_write_24 hfh ⟨_, rfl⟩ rfl (by omega) (by omega) (hfh0 s hs) ?_
  refine J_astore_3 dX6_write_25 (Nat.le_of_ble_eq_true rfl) rfl ?_
  refine J_aload_3 dX6_write_26 ?_
  refine J_get dX6_write_27 fl_X6_101 hS rfl ?_
  refine J_if_eq (tgt := 39) dX6_write_30 (by decide) (fun c => absurd c (by decide)) (fun _ => ?_)
  refine J_aload_0 dX6_write_33 ?_
  refine J_iconst (v := nI 1) dX6_write_34 (by decide) ?_
  refine J_cV1 dX6_write_35 jmX6_found mv_X6_105 h0 rfl (Nat.le_of_ble_eq_true rfl) (by decide) (c_found p) (fun r h' q => ?_)
  obtain ⟨rfl, rfl⟩ := q
  exact J_iret dX6_write_38 rfl (⟨rfl, ⟨ca, xs, dk_find p (by decide)⟩, offB.rf.hu (by omega) (by omega)⟩)
theorem l_write {h : HF} {l s N mm form sz : Nat} {g : Nat → Nat → Nat} (hl : l < 2) (hs : s < 4) (hmm : mm ≤ 2 * N) (hmz : mm ≤ sz) {itf : Nat → Int32} : ∀ (k i : Nat) (h1 : HF) (it : Nat → Int32), i + k = mm → spAt h1 (33 + 5 * l) 8 N g → shAt h1 (43 + 2 * s) false form sz it → wrI g form i k it = itf → offB h h1 (43 + 2 * s) (45 + 2 * s) →
    J X RX6 cX6_write 7 3 (some .int) (fun r h' => r = some (.int (nI mm)) ∧ shAt h' (43 + 2 * s) false form sz itf ∧ offB h h' (43 + 2 * s) (45 + 2 * s)) 66 [some (.ref 0), some (.int (nI l)), some (.int (nI s)), some (.ref (43 + 2 * s)), some (.ref (33 + 5 * l)), some (.int (nI mm)), some (.int (nI i))] [] h1 := by
  intro k
  induction k with
  | zero =>
    intro i h1 it hi ps hS hw ho
    have hz := hS.2.2.2
    have hw : it = itf := hw
    subst hw
    refine J_iload_6 dX6_write_66 ?_
    refine J_iload_5 dX6_write_68 ?_
    refine J_icmp_geN (tgt := 115) dX6_write_70 (by decide) (by omega) (by omega) (fun _ => ?_) (fun c => absurd c (by omega))
    refine J_iload_5 dX6_write_115 ?_
    exact J_iret dX6_write_117 rfl (⟨rfl, hS, ho⟩)
  | succ k ih =>
    intro i h1 it hi ps hS hw ho
    obtain ⟨p0, p1, p2, p3, p4, hn, hcap⟩ := id ps
    have hz := hS.2.2.2
    have s0 := hS.1
    rw [wrI] at hw
    have key : ∀ v : Int32, v = nI (g (i / 2) (1 + i % 2)) → J X RX6 cX6_write 7 3 (some .int) (fun r h' => r = some (.int (nI mm)) ∧ shAt h' (43 + 2 * s) false form sz itf ∧ offB h h' (43 + 2 * s) (45 + 2 * s)) 106 [some (.ref 0), some (.int (nI l)), some (.int (nI s)), some (.ref (43 + 2 * s)), some (.ref (33 + 5 * l)), some (.int (nI mm)), some (.int (nI i))] [.int v, .int (nI i), .ref (43 + 2 * s)] h1 := by
      rintro v rfl
      refine J_cV2 dX6_write_106 jmX4_store mv_X6_272 s0 rfl (Nat.le_of_ble_eq_true rfl) (by decide) (c_store hS (j := i) (by omega)) (fun r h' q => ?_)
      obtain ⟨rfl, q1, q2⟩ := q
      first | refine J_inc_6 dX6_write_109 (Nat.le_of_ble_eq_true rfl) rfl ?_ | refine J_iinc_6 dX6_write_109 rfl (Nat.le_of_ble_eq_true rfl) rfl ?_
      refine J_goto (tgt := 66) dX6_write_112 (by decide) ?_
      exact ih (i + 1) _ _ (by omega) (sp_other ps (fun b l u => q2 b (by omega))) q1 hw (ho.tr (q2.wide (by omega) (by omega)))
    refine J_iload_6 dX6_write_66 ?_
    refine J_iload_5 dX6_write_68 ?_
    refine J_icmp_geN (tgt := 115) dX6_write_70 (by decide) (by omega) (by omega) (fun c => absurd c (by omega)) (fun _ => ?_)
    refine J_aload_3 dX6_write_73 ?_
    refine J_iload_6 dX6_write_74 ?_
    refine J_iload_6 dX6_write_76 ?_
    refine J_iconst (v := nI 2) dX6_write_78 (by decide) ?_
    refine J_iremN dX6_write_79 (by omega) (by omega) (by omega) ?_
    first | refine J_if_neB (tgt := 96) dX6_write_80 (by decide) (fun c80 => ?_) (fun c80 => ?_) | refine J_if_neN (tgt := 96) dX6_write_80 (by decide) (by omega) (fun c80 => ?_) (fun c80 => ?_) | refine J_if_ne (tgt := 96) dX6_write_80 (by decide) (fun c80 => ?_) (fun c80 => ?_)
    · refine J_aload_4 dX6_write_96 ?_
      refine J_get dX6_write_98 fl_X6_201 p0 rfl ?_
      refine J_iload_6 dX6_write_101 ?_
      refine J_iconst (v := nI 2) dX6_write_103 (by decide) ?_
      refine J_idivN dX6_write_104 (by omega) (by omega) (by omega) ?_
      refine J_iald dX6_write_105 p3 rfl (by omega) (by omega) ?_
      exact key _ (by first | rw [c80] | rw [show i % 2 = 1 by omega])
    · refine J_aload_4 dX6_write_83 ?_
      refine J_get dX6_write_85 fl_X6_198 p0 rfl ?_
      refine J_iload_6 dX6_write_88 ?_
      refine J_iconst (v := nI 2) dX6_write_90 (by decide) ?_
      refine J_idivN dX6_write_91 (by omega) (by omega) (by omega) ?_
      refine J_iald dX6_write_92 p2 rfl (by omega) (by omega) ?_
      refine J_goto (tgt := 106) dX6_write_93 (by decide) ?_
      exact key _ (by first | rw [c80] | rw [show i % 2 = 1 by omega])
def sWrN (D : DS) (l s : Nat) : Nat := min (2 * plN D l 8) (dsh D s).2.2.1
theorem c_write_ok (p : dkAt h D ca xs) {l s : Nat} (hl : l < 2) (hs : s < 4) (hq : (dsh D s).1 = false) : Ct X mX6_write 3 [.ref 0, .int (nI l), .int (nI s)] h (fun r h' => r = some (.int (nI (sWrN D l s))) ∧ DeskAt h' (dSH D s (false, (dsh D s).2.1, (dsh D s).2.2.1, wrI (plG D l 8) (dsh D s).2.1 0 (sWrN D l s) (dsh D s).2.2.2)) ∧ offB h h' 0 51) := by
  obtain ⟨h0, -, -, -, -, -, ⟨fh, hfh, hfh0⟩, hsh, hrest⟩ := id p
  have hd : dok D := p.2.2.2.2.2.2.2.2.2.2.2.2.2
  obtain ⟨hN, hP⟩ := pl_P hd (w := 8) hl
  have hS := hsh s hs
  rw [hq] at hS
  have hS0 := hS.1
  have hz := hS.2.2.2
  refine Ct_of jmX6_write [some (.ref 0), some (.int (nI l)), some (.int (nI s)), none, none, none, none] (Nat.le_of_ble_eq_true rfl) rfl ?_
  show J X RX6 cX6_write 7 _ (some .int) _ 0 _ _ _
  refine J_iload_1 dX6_write_0 ?_
  refine J_iconst (v := nI 2) dX6_write_1 (by decide) ?_
  refine J_cS2i dX6_write_2 jmX6_isBelow ms_X6_60 (Nat.le_of_ble_eq_true rfl) (by decide) (c_below hl (by decide)) ?_
  refine J_if_eq (tgt := 16) dX6_write_5 (by decide) (fun c => absurd c (by decide)) (fun _ => ?_)
  refine J_iload_2 dX6_write_8 ?_
  refine J_iconst (v := nI 4) dX6_write_9 (by decide) ?_
  refine J_cS2i dX6_write_10 jmX6_isBelow ms_X6_60 (Nat.le_of_ble_eq_true rfl) (by decide) (c_below hs (by decide)) ?_
  refine J_if_ne (tgt := 19) dX6_write_13 (by decide) (fun _ => ?_) (fun c => absurd c (by decide))
  refine J_aload_0 dX6_write_19 ?_
  refine J_get dX6_write_20 fl_X6_27 h0 rfl ?_
  refine J_iload_2 dX6_write_23 ?_
  refine J_aald dX6_write_24 hfh ⟨_, rfl⟩ rfl (by omega) (by omega) (hfh0 s hs) ?_
  refine J_astore_3 dX6_write_25 (Nat.le_of_ble_eq_true rfl) rfl ?_
  refine J_aload_3 dX6_write_26 ?_
  refine J_get dX6_write_27 fl_X6_101 hS0 rfl ?_
  refine J_if_eq (tgt := 39) dX6_write_30 (by decide) (fun _ => ?_) (fun c => absurd (by decide) c)
  refine J_aload_0 dX6_write_39 ?_
  refine J_iload_1 dX6_write_40 ?_
  refine J_iconst (v := -1) dX6_write_41 (by decide) ?_
  refine J_cV2 dX6_write_42 jmX6_gather mv_X6_190 h0 rfl (Nat.le_of_ble_eq_true rfl) (by decide) (c_gather p hl wN8) (fun r h' q => ?_)
  obtain ⟨rfl, p2, ⟨g, ps, ag⟩, o2⟩ := q
  have hS2 := p2.2.2.2.2.2.2.2.1 s hs
  rw [hq] at hS2
  have t0 := hS2.1
  refine J_astore_4 dX6_write_45 (Nat.le_of_ble_eq_true rfl) rfl ?_
  refine J_iconst (v := nI 2) dX6_write_47 (by decide) ?_
  refine J_aload_4 dX6_write_48 ?_
  refine J_get dX6_write_50 fl_X6_194 ps.1 rfl ?_
  first | refine J_imulN dX6_write_53 ?_ | refine J_imul dX6_write_53 ?_
  refine J_aload_3 dX6_write_54 ?_
  refine J_get dX6_write_55 fl_X6_108 t0 rfl ?_
  refine J_mminN dX6_write_58 ms_X6_257 (by decide) (Nat.le_of_ble_eq_true rfl) (by omega) (by omega) ?_
  refine J_istore_5 dX6_write_61 (Nat.le_of_ble_eq_true rfl) rfl ?_
  refine J_iconst (v := nI 0) dX6_write_63 (by decide) ?_
  refine J_istore_6 dX6_write_64 (Nat.le_of_ble_eq_true rfl) rfl ?_
  refine J_mono (l_write (h := h') (mm := sWrN D l s) hl hs (Nat.min_le_left _ _) (Nat.min_le_right _ _) (sWrN D l s) 0 h' _ (by omega) ps hS2 rfl offB.rf) ?_
  rintro r h3 ⟨e1, q1, q2⟩
  rw [wrI_agr ag _ 0 _ (by have := Nat.min_le_left (2 * plN D l 8) (dsh D s).2.2.1; unfold sWrN; omega)] at q1
  exact ⟨e1, ⟨ca, xs, dk_sheet p2 hs q2 (q := (false, (dsh D s).2.1, (dsh D s).2.2.1, wrI (plG D l 8) (dsh D s).2.1 0 (sWrN D l s) (dsh D s).2.2.2)) q1⟩, (o2.wide (by omega) (by omega)).tr (q2.wide (by omega) (by omega))⟩
end
