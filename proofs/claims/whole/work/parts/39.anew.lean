def pv (q : Nat × Nat × Nat) : Nat → Nat := fun k => if k = 0 then q.1 else if k = 1 then q.2.1 else if k = 2 then q.2.2 else 0
def gl (L : List (Nat × Nat × Nat)) (j : Nat) : Nat → Nat := match L[j]? with
  | some q => pv q
  | none => fun _ => 0
/-- the row of fresh spans holds these pieces -/
def flAt (h : HF) (L : List (Nat × Nat × Nat)) : Prop := ∃ g, spAt h 6 16 L.length g ∧ agr L.length g (gl L)
def pcOk (q : Nat × Nat × Nat) : Prop := q.1 < 6 ∧ q.2.1 ≤ q.2.2 ∧ q.2.2 < 2 ^ 18
theorem gl_lo {L L2 : List (Nat × Nat × Nat)} {j : Nat} (hj : j < L.length) : gl (L ++ L2) j = gl L j := by
  unfold gl
  rw [List.getElem?_append_left hj]
theorem gl_at {L : List (Nat × Nat × Nat)} {q : Nat × Nat × Nat} : gl (L ++ [q]) L.length = pv q := by
  unfold gl
  rw [List.getElem?_append_right (Nat.le_refl _), Nat.sub_self]
  rfl
theorem awL_agr {g g' : Nat → Nat → Nat} {r lst : Nat} : ∀ (k i a : Nat), (∀ j, j < i + k → g j = g' j) → awL g r lst i k a = awL g' r lst i k a := by
  intro k
  induction k with
  | zero => intro i a _; rfl
  | succ k ih =>
    intro i a h
    rw [awL, awL, ih (i + 1) _ (fun j hj => h j (by omega)), ih (i + 1) _ (fun j hj => h j (by omega)), h i (by omega)]
section
variable {X : Cx} {h : HF}
theorem c_flApp {L : List (Nat × Nat × Nat)} (p : flAt h L) {q : Nat × Nat × Nat} (ok : pcOk q) (hn : L.length < 16) : Ct X mX5_append 1 [.ref 6, .int (nI q.1), .int (nI q.2.1), .int (nI q.2.2)] h (fun r h' => r = none ∧ flAt h' (L ++ [q]) ∧ offB h h' 6 11) := by
  obtain ⟨g, ps, ag⟩ := p
  refine Ct.mono (c_spApp (X := X) ps (v := pv q) ok.2.1 (Nat.lt_trans ok.2.2 (by decide)) hn rfl) ?_
  rintro r h' ⟨e1, p2, o2⟩
  refine ⟨e1, ⟨_, by rw [List.length_append]; exact p2, fun j hj => ?_⟩, o2⟩
  rw [List.length_append] at hj
  by_cases z : j = L.length
  · subst z
    rw [eset_s, gl_at]
  · have : j < L.length := by
      simp only [List.length_cons, List.length_nil] at hj
      omega
    rw [eset_n z, gl_lo this]
    exact ag j this
variable {D : DS} {ca : Nat → Nat} {xs : Nat → Nat → Nat → Nat}
theorem l_addW {h : HF} {b n r lst : Nat} {g : Nat → Nat → Nat} (hr : r < 6) (hlst : lst < 2 ^ 18) (hb : 11 ≤ b) {Lf : List (Nat × Nat × Nat)} (hf16 : Lf.length ≤ 16) {v3 : Int32} (hV : ∀ j, j < n → spP (g j)) : ∀ (k i a : Nat) (h1 : HF) (L : List (Nat × Nat × Nat)), i + k = n → a < 2 ^ 19 → hAt h1 0 (oB 5 [.ref 1, .ref 2, .ref 3, .ref 4, .ref 5, .ref 6, .ref 11, .int (nI (dfi D))]) → spAt h1 b 8 n g → flAt h1 L → L ++ awL g r lst i k a = Lf → offB h h1 6 11 →
    J X RX6 cX6_addWithout 7 2 none (fun q h' => q = none ∧ flAt h' Lf ∧ offB h h' 6 11) 6 [some (.ref 0), some (.ref b), some (.int (nI r)), some (.int v3), some (.int (nI lst)), some (.int (nI a)), some (.int (nI i))] [] h1 := by
  intro k
  induction k with
  | zero =>
    intro i a h1 L hi ha h0 ps fl hL ho
    obtain ⟨s0, s1, s2, s3, s4, hn, hcap⟩ := id ps
    obtain ⟨gf, psf, agf⟩ := id fl
    have sf := psf.1
    rw [awL] at hL
    by_cases c : a ≤ lst
    · rw [if_pos c] at hL
      subst hL
      have hl16 : L.length < 16 := by
        rw [List.length_append] at hf16
        simp only [List.length_cons, List.length_nil] at hf16
        omega
      have ct := c_flApp (X := X) fl (q := (r, a, lst)) ⟨hr, c, hlst⟩ hl16
      refine J_iload_6 dX6_addWithout_6 ?_
      refine J_aload_1 dX6_addWithout_8 ?_
      refine J_get dX6_addWithout_9 fl_X6_194 s0 rfl ?_
      refine J_icmp_geN (tgt := 72) dX6_addWithout_12 (by decide) (by omega) (by omega) (fun _ => ?_) (fun c => absurd c (by omega))
      refine J_aload_0 dX6_addWithout_72 ?_
      refine J_get dX6_addWithout_73 fl_X6_40 h0 rfl ?_
      refine J_iload_2 dX6_addWithout_76 ?_
      refine J_iload_5 dX6_addWithout_77 ?_
      refine J_iload_4 dX6_addWithout_79 ?_
      refine J_cV3 dX6_addWithout_81 jmX5_append mv_X6_264 sf rfl (Nat.le_of_ble_eq_true rfl) (by decide) (ct) (fun r h' q => ?_)
      obtain ⟨rfl, f2, o2⟩ := q
      exact J_vret dX6_addWithout_84 rfl (⟨rfl, f2, ho.tr o2⟩)
    · rw [if_neg c, List.append_nil] at hL
      subst hL
      have ct := c_spAppNo (X := X) (h := h1) (a := 6) (v0 := nI r) (v1 := nI a) (v2 := nI lst) ((nI_ltI (by omega) (by omega)).mpr (by omega))
      refine J_iload_6 dX6_addWithout_6 ?_
      refine J_aload_1 dX6_addWithout_8 ?_
      refine J_get dX6_addWithout_9 fl_X6_194 s0 rfl ?_
      refine J_icmp_geN (tgt := 72) dX6_addWithout_12 (by decide) (by omega) (by omega) (fun _ => ?_) (fun c => absurd c (by omega))
      refine J_aload_0 dX6_addWithout_72 ?_
      refine J_get dX6_addWithout_73 fl_X6_40 h0 rfl ?_
      refine J_iload_2 dX6_addWithout_76 ?_
      refine J_iload_5 dX6_addWithout_77 ?_
      refine J_iload_4 dX6_addWithout_79 ?_
      refine J_cV3 dX6_addWithout_81 jmX5_append mv_X6_264 sf rfl (Nat.le_of_ble_eq_true rfl) (by decide) (ct) (fun r h' q => ?_)
      obtain ⟨rfl, rfl⟩ := q
      exact J_vret dX6_addWithout_84 rfl (⟨rfl, fl, ho⟩)
  | succ k ih =>
    intro i a h1 L hi ha h0 ps fl hL ho
    obtain ⟨s0, s1, s2, s3, s4, hn, hcap⟩ := id ps
    obtain ⟨gf, psf, agf⟩ := id fl
    have sf := psf.1
    obtain ⟨v0, v1, v2, v3'⟩ := hV i (by omega)
    rw [awL] at hL
    by_cases c : g i 0 = r
    · rw [if_pos c] at hL
      by_cases c2 : a ≤ lst ∧ a < g i 1
      · rw [if_pos c2] at hL
        have hl16 : L.length < 16 := by
          have := congrArg List.length hL
          rw [List.length_append, List.length_cons] at this
          omega
        have hmin : min lst (g i 1 - 1) < 2 ^ 18 := Nat.lt_of_le_of_lt (Nat.min_le_left _ _) hlst
        have ct := c_flApp (X := X) fl (q := (r, a, min lst (g i 1 - 1))) ⟨hr, Nat.le_min.mpr ⟨c2.1, show a ≤ g i 1 - 1 by omega⟩, hmin⟩ hl16
        have hL2 : (L ++ [(r, a, min lst (g i 1 - 1))]) ++ awL g r lst (i + 1) k (max a (g i 2 + 1)) = Lf := by rw [← hL, List.append_assoc]; rfl
        refine J_iload_6 dX6_addWithout_6 ?_
        refine J_aload_1 dX6_addWithout_8 ?_
        refine J_get dX6_addWithout_9 fl_X6_194 s0 rfl ?_
        refine J_icmp_geN (tgt := 72) dX6_addWithout_12 (by decide) (by omega) (by omega) (fun c => absurd c (by omega)) (fun _ => ?_)
        refine J_aload_1 dX6_addWithout_15 ?_
        refine J_get dX6_addWithout_16 fl_X6_195 s0 rfl ?_
        refine J_iload_6 dX6_addWithout_19 ?_
        refine J_iald dX6_addWithout_21 s1 rfl (by omega) (by omega) ?_
        refine J_iload_2 dX6_addWithout_22 ?_
        refine J_icmp_neN (tgt := 66) dX6_addWithout_23 (by decide) (by omega) (by omega) (fun c => absurd c (by omega)) (fun _ => ?_)
        refine J_aload_0 dX6_addWithout_26 ?_
        refine J_get dX6_addWithout_27 fl_X6_40 h0 rfl ?_
        refine J_iload_2 dX6_addWithout_30 ?_
        refine J_iload_5 dX6_addWithout_31 ?_
        refine J_iload_4 dX6_addWithout_33 ?_
        refine J_aload_1 dX6_addWithout_35 ?_
        refine J_get dX6_addWithout_36 fl_X6_198 s0 rfl ?_
        refine J_iload_6 dX6_addWithout_39 ?_
        refine J_iald dX6_addWithout_41 s2 rfl (by omega) (by omega) ?_
        refine J_iconst (v := nI 1) dX6_addWithout_42 (by decide) ?_
        refine J_isubN dX6_addWithout_43 (by omega) ?_
        refine J_mminN dX6_addWithout_44 ms_X6_257 (by decide) (Nat.le_of_ble_eq_true rfl) (by omega) (by omega) ?_
        refine J_cV3 dX6_addWithout_47 jmX5_append mv_X6_264 sf rfl (Nat.le_of_ble_eq_true rfl) (by decide) (ct) (fun r h' q => ?_)
        obtain ⟨rfl, f2, o2⟩ := q
        have ps2 := sp_other ps (fun b' l u => o2 b' (by omega))
        have t0 := ps2.1
        have t3 := ps2.2.2.2.1
        refine J_iload_5 dX6_addWithout_50 ?_
        refine J_aload_1 dX6_addWithout_52 ?_
        refine J_get dX6_addWithout_53 fl_X6_201 t0 rfl ?_
        refine J_iload_6 dX6_addWithout_56 ?_
        refine J_iald dX6_addWithout_58 t3 rfl (by omega) (by omega) ?_
        refine J_iconst (v := nI 1) dX6_addWithout_59 (by decide) ?_
        first | refine J_iaddN dX6_addWithout_60 ?_ | refine J_iadd dX6_addWithout_60 ?_
        refine J_mmaxN dX6_addWithout_61 ms_X6_222 (by decide) (Nat.le_of_ble_eq_true rfl) (by omega) (by omega) ?_
        refine J_istore_5 dX6_addWithout_64 (Nat.le_of_ble_eq_true rfl) rfl ?_
        first | refine J_inc_6 dX6_addWithout_66 (Nat.le_of_ble_eq_true rfl) rfl ?_ | refine J_iinc_6 dX6_addWithout_66 rfl (Nat.le_of_ble_eq_true rfl) rfl ?_
        refine J_goto (tgt := 6) dX6_addWithout_69 (by decide) ?_
        exact ih (i + 1) _ _ _ (by omega) (Nat.max_lt.mpr ⟨ha, by omega⟩) (hAt_off h0 o2 (by omega)) ps2 f2 hL2 (ho.tr o2)
      · rw [if_neg c2] at hL
        by_cases cz : g i 1 = 0
        · have em : (if nI (g i 1) - nI 1 < nI lst then nI (g i 1) - nI 1 else nI lst) = -1 := by
            rw [cz, show nI 0 - nI 1 = (-1 : Int32) from by decide, if_pos]
            rw [Int32.lt_iff_toInt_lt, nI_toInt (by omega), show (-1 : Int32).toInt = -1 from by decide]
            omega
          have hneg : (-1 : Int32) < nI a := by
            rw [Int32.lt_iff_toInt_lt, nI_toInt (by omega), show (-1 : Int32).toInt = -1 from by decide]
            omega
          have ct := c_spAppNo (X := X) (h := h1) (a := 6) (v0 := nI r) (v1 := nI a) (v2 := -1) hneg
          refine J_iload_6 dX6_addWithout_6 ?_
          refine J_aload_1 dX6_addWithout_8 ?_
          refine J_get dX6_addWithout_9 fl_X6_194 s0 rfl ?_
          refine J_icmp_geN (tgt := 72) dX6_addWithout_12 (by decide) (by omega) (by omega) (fun c => absurd c (by omega)) (fun _ => ?_)
          refine J_aload_1 dX6_addWithout_15 ?_
          refine J_get dX6_addWithout_16 fl_X6_195 s0 rfl ?_
          refine J_iload_6 dX6_addWithout_19 ?_
          refine J_iald dX6_addWithout_21 s1 rfl (by omega) (by omega) ?_
          refine J_iload_2 dX6_addWithout_22 ?_
          refine J_icmp_neN (tgt := 66) dX6_addWithout_23 (by decide) (by omega) (by omega) (fun c => absurd c (by omega)) (fun _ => ?_)
          refine J_aload_0 dX6_addWithout_26 ?_
          refine J_get dX6_addWithout_27 fl_X6_40 h0 rfl ?_
          refine J_iload_2 dX6_addWithout_30 ?_
          refine J_iload_5 dX6_addWithout_31 ?_
          refine J_iload_4 dX6_addWithout_33 ?_
          refine J_aload_1 dX6_addWithout_35 ?_
          refine J_get dX6_addWithout_36 fl_X6_198 s0 rfl ?_
          refine J_iload_6 dX6_addWithout_39 ?_
          refine J_iald dX6_addWithout_41 s2 rfl (by omega) (by omega) ?_
          refine J_iconst (v := nI 1) dX6_addWithout_42 (by decide) ?_
          refine J_isub dX6_addWithout_43 ?_
          refine J_mmin dX6_addWithout_44 ms_X6_257 (by decide) (Nat.le_of_ble_eq_true rfl) ?_
          refine J_topi em ?_
          refine J_cV3 dX6_addWithout_47 jmX5_append mv_X6_264 sf rfl (Nat.le_of_ble_eq_true rfl) (by decide) (ct) (fun r h' q => ?_)
          obtain ⟨rfl, rfl⟩ := q
          refine J_iload_5 dX6_addWithout_50 ?_
          refine J_aload_1 dX6_addWithout_52 ?_
          refine J_get dX6_addWithout_53 fl_X6_201 s0 rfl ?_
          refine J_iload_6 dX6_addWithout_56 ?_
          refine J_iald dX6_addWithout_58 s3 rfl (by omega) (by omega) ?_
          refine J_iconst (v := nI 1) dX6_addWithout_59 (by decide) ?_
          first | refine J_iaddN dX6_addWithout_60 ?_ | refine J_iadd dX6_addWithout_60 ?_
          refine J_mmaxN dX6_addWithout_61 ms_X6_222 (by decide) (Nat.le_of_ble_eq_true rfl) (by omega) (by omega) ?_
          refine J_istore_5 dX6_addWithout_64 (Nat.le_of_ble_eq_true rfl) rfl ?_
          first | refine J_inc_6 dX6_addWithout_66 (Nat.le_of_ble_eq_true rfl) rfl ?_ | refine J_iinc_6 dX6_addWithout_66 rfl (Nat.le_of_ble_eq_true rfl) rfl ?_
          refine J_goto (tgt := 6) dX6_addWithout_69 (by decide) ?_
          exact ih (i + 1) _ _ _ (by omega) (Nat.max_lt.mpr ⟨ha, by omega⟩) h0 ps fl hL ho
        · have hlt : min lst (g i 1 - 1) < a := by omega
          have ct := c_spAppNo (X := X) (h := h1) (a := 6) (v0 := nI r) (v1 := nI a) (v2 := nI (min lst (g i 1 - 1))) ((nI_ltI (by omega) (by omega)).mpr hlt)
          refine J_iload_6 dX6_addWithout_6 ?_
          refine J_aload_1 dX6_addWithout_8 ?_
          refine J_get dX6_addWithout_9 fl_X6_194 s0 rfl ?_
          refine J_icmp_geN (tgt := 72) dX6_addWithout_12 (by decide) (by omega) (by omega) (fun c => absurd c (by omega)) (fun _ => ?_)
          refine J_aload_1 dX6_addWithout_15 ?_
          refine J_get dX6_addWithout_16 fl_X6_195 s0 rfl ?_
          refine J_iload_6 dX6_addWithout_19 ?_
          refine J_iald dX6_addWithout_21 s1 rfl (by omega) (by omega) ?_
          refine J_iload_2 dX6_addWithout_22 ?_
          refine J_icmp_neN (tgt := 66) dX6_addWithout_23 (by decide) (by omega) (by omega) (fun c => absurd c (by omega)) (fun _ => ?_)
          refine J_aload_0 dX6_addWithout_26 ?_
          refine J_get dX6_addWithout_27 fl_X6_40 h0 rfl ?_
          refine J_iload_2 dX6_addWithout_30 ?_
          refine J_iload_5 dX6_addWithout_31 ?_
          refine J_iload_4 dX6_addWithout_33 ?_
          refine J_aload_1 dX6_addWithout_35 ?_
          refine J_get dX6_addWithout_36 fl_X6_198 s0 rfl ?_
          refine J_iload_6 dX6_addWithout_39 ?_
          refine J_iald dX6_addWithout_41 s2 rfl (by omega) (by omega) ?_
          refine J_iconst (v := nI 1) dX6_addWithout_42 (by decide) ?_
          refine J_isubN dX6_addWithout_43 (by omega) ?_
          refine J_mminN dX6_addWithout_44 ms_X6_257 (by decide) (Nat.le_of_ble_eq_true rfl) (by omega) (by omega) ?_
          refine J_cV3 dX6_addWithout_47 jmX5_append mv_X6_264 sf rfl (Nat.le_of_ble_eq_true rfl) (by decide) (ct) (fun r h' q => ?_)
          obtain ⟨rfl, rfl⟩ := q
          refine J_iload_5 dX6_addWithout_50 ?_
          refine J_aload_1 dX6_addWithout_52 ?_
          refine J_get dX6_addWithout_53 fl_X6_201 s0 rfl ?_
          refine J_iload_6 dX6_addWithout_56 ?_
          refine J_iald dX6_addWithout_58 s3 rfl (by omega) (by omega) ?_
          refine J_iconst (v := nI 1) dX6_addWithout_59 (by decide) ?_
          first | refine J_iaddN dX6_addWithout_60 ?_ | refine J_iadd dX6_addWithout_60 ?_
          refine J_mmaxN dX6_addWithout_61 ms_X6_222 (by decide) (Nat.le_of_ble_eq_true rfl) (by omega) (by omega) ?_
          refine J_istore_5 dX6_addWithout_64 (Nat.le_of_ble_eq_true rfl) rfl ?_
          first | refine J_inc_6 dX6_addWithout_66 (Nat.le_of_ble_eq_true rfl) rfl ?_ | refine J_iinc_6 dX6_addWithout_66 rfl (Nat.le_of_ble_eq_true rfl) rfl ?_
          refine J_goto (tgt := 6) dX6_addWithout_69 (by decide) ?_
          exact ih (i + 1) _ _ _ (by omega) (Nat.max_lt.mpr ⟨ha, by omega⟩) h0 ps fl hL ho
    · rw [if_neg c] at hL
      refine J_iload_6 dX6_addWithout_6 ?_
      refine J_aload_1 dX6_addWithout_8 ?_
      refine J_get dX6_addWithout_9 fl_X6_194 s0 rfl ?_
      refine J_icmp_geN (tgt := 72) dX6_addWithout_12 (by decide) (by omega) (by omega) (fun c => absurd c (by omega)) (fun _ => ?_)
      refine J_aload_1 dX6_addWithout_15 ?_
      refine J_get dX6_addWithout_16 fl_X6_195 s0 rfl ?_
      refine J_iload_6 dX6_addWithout_19 ?_
      refine J_iald dX6_addWithout_21 s1 rfl (by omega) (by omega) ?_
      refine J_iload_2 dX6_addWithout_22 ?_
      refine J_icmp_neN (tgt := 66) dX6_addWithout_23 (by decide) (by omega) (by omega) (fun _ => ?_) (fun c => absurd c (by omega))
      first | refine J_inc_6 dX6_addWithout_66 (Nat.le_of_ble_eq_true rfl) rfl ?_ | refine J_iinc_6 dX6_addWithout_66 rfl (Nat.le_of_ble_eq_true rfl) rfl ?_
      refine J_goto (tgt := 6) dX6_addWithout_69 (by decide) ?_
      exact ih (i + 1) _ _ _ (by omega) ha h0 ps fl hL ho
theorem c_addW {b n r lst a : Nat} {g : Nat → Nat → Nat} (hr : r < 6) (hlst : lst < 2 ^ 18) (ha : a < 2 ^ 19) (hb : 11 ≤ b) {L : List (Nat × Nat × Nat)} (hf16 : (L ++ awL g r lst 0 n a).length ≤ 16) (hV : ∀ j, j < n → spP (g j)) (h0 : hAt h 0 (oB 5 [.ref 1, .ref 2, .ref 3, .ref 4, .ref 5, .ref 6, .ref 11, .int (nI (dfi D))])) (ps : spAt h b 8 n g) (fl : flAt h L) : Ct X mX6_addWithout 2 [.ref 0, .ref b, .int (nI r), .int (nI a), .int (nI lst)] h (fun q h' => q = none ∧ flAt h' (L ++ awL g r lst 0 n a) ∧ offB h h' 6 11) := by
  refine Ct_of jmX6_addWithout [some (.ref 0), some (.ref b), some (.int (nI r)), some (.int (nI a)), some (.int (nI lst)), none, none] (Nat.le_of_ble_eq_true rfl) rfl ?_
  show J X RX6 cX6_addWithout 7 _ none _ 0 _ _ _
  refine J_iload_3 dX6_addWithout_0 ?_
  refine J_istore_5 dX6_addWithout_1 (Nat.le_of_ble_eq_true rfl) rfl ?_
  refine J_iconst (v := nI 0) dX6_addWithout_3 (by decide) ?_
  refine J_istore_6 dX6_addWithout_4 (Nat.le_of_ble_eq_true rfl) rfl ?_
  exact l_addW hr hlst hb hf16 hV n 0 a h L (by omega) ha h0 ps fl rfl offB.rf
theorem dk_fl (p : dkAt h D ca xs) {h' : HF} {n : Nat} {g : Nat → Nat → Nat} (ho : offB h h' 6 11) (q : spAt h' 6 16 n g) : dkAt h' D ca xs := by
  refine dk_off p (fun b hb => ho b (by omega)) ⟨n, g, q⟩ ?_ ?_
  · intro j hj
    obtain ⟨n, g, z⟩ := p.2.2.2.2.2.2.2.2.2.2.1 j hj
    exact ⟨n, g, sp_other z (fun b l u => ho b (by omega))⟩
  · obtain ⟨t, f, z⟩ := p.2.2.2.2.2.2.2.2.2.2.2.1
    exact ⟨t, f, ma_other z (fun b l u => ho b (by omega))⟩
theorem l_fresh {h : HF} (hd : dok D) : ∀ (k i : Nat) (h1 : HF) (L : List (Nat × Nat × Nat)) (o4 o5 : Option Value), lok o4 = true → i + k = plN D 1 8 → dkAt h1 D ca xs → plAt h1 D 0 8 → plAt h1 D 1 8 → flAt h1 L → L ++ frL D i k = frs D → offB h h1 0 51 →
    J X RX6 cX6_gatherFresh 6 3 none (fun q h' => q = none ∧ dkAt h' D ca xs ∧ flAt h' (frs D) ∧ offB h h' 0 51) 24 [some (.ref 0), some (.ref 33), some (.ref 38), some (.int (nI i)), o4, o5] [] h1 := by
  obtain ⟨hN0, hP0⟩ := pl_P hd (l := 0) (w := 8) (by decide)
  obtain ⟨hN1, hP1⟩ := pl_P hd (l := 1) (w := 8) (by decide)
  intro k
  induction k with
  | zero =>
    intro i h1 L o4 o5 l4 hi p q0 q1 fl hL ho
    obtain ⟨g1, ps1, ag1⟩ := q1
    have s0 := ps1.1
    rw [frL, List.append_nil] at hL
    subst hL
    refine J_iload_3 dX6_gatherFresh_24 ?_
    refine J_aload_2 dX6_gatherFresh_25 ?_
    refine J_get dX6_gatherFresh_26 fl_X6_194 s0 rfl ?_
    refine J_icmp_geN (tgt := 80) dX6_gatherFresh_29 (by decide) (by omega) (by omega) (fun _ => ?_) (fun c => absurd c (by omega))
    exact J_vret dX6_gatherFresh_80 rfl (⟨rfl, p, fl, ho⟩)
  | succ k ih =>
    intro i h1 L o4 o5 l4 hi p q0 q1 fl hL ho
    obtain ⟨g0, ps0, ag0⟩ := id q0
    obtain ⟨g1, ps1, ag1⟩ := id q1
    obtain ⟨s0, s1, s2, s3, s4, hn, hcap⟩ := id ps1
    have h0 := p.1
    have e1 := ag1 i (by omega)
    obtain ⟨v0, v1, v2, v3⟩ := hP1 i (by omega)
    have hlen := hd.2.2.2.1 (plG D 1 8 i 0) v0
    rw [frL] at hL
    have h16 := frs_len hd
    have hb16 : (L ++ awL (plG D 0 8) (plG D 1 8 i 0) (min (plG D 1 8 i 2) (dl D (plG D 1 8 i 0) - 1)) 0 (plN D 0 8) (plG D 1 8 i 1)).length ≤ 16 := by
      rw [← hL] at h16
      rw [List.length_append] at h16 ⊢
      rw [List.length_append] at h16
      omega
    have eaw := awL_agr (g := g0) (g' := plG D 0 8) (r := plG D 1 8 i 0) (lst := min (plG D 1 8 i 2) (dl D (plG D 1 8 i 0) - 1)) (plN D 0 8) 0 (plG D 1 8 i 1) (fun j hj => ag0 j (by omega))
    have hmin : min (plG D 1 8 i 2) (dl D (plG D 1 8 i 0) - 1) < 2 ^ 18 := Nat.lt_of_le_of_lt (Nat.min_le_left _ _) v2
    have ct := c_addW (X := X) (D := D) (h := h1) (b := 33) (n := plN D 0 8) (r := plG D 1 8 i 0) (lst := min (plG D 1 8 i 2) (dl D (plG D 1 8 i 0) - 1)) (a := plG D 1 8 i 1) (g := g0) v0 hmin (by omega) (by omega) (L := L) (by rw [eaw]; exact hb16) (fun j hj => by rw [ag0 j hj]; exact hP0 j hj) h0 ps0 fl
    rw [eaw] at ct
    rw [← e1] at ct v0 v1 v2 hlen hL
    refine J_iload_3 dX6_gatherFresh_24 ?_
    refine J_aload_2 dX6_gatherFresh_25 ?_
    refine J_get dX6_gatherFresh_26 fl_X6_194 s0 rfl ?_
    refine J_icmp_geN (tgt := 80) dX6_gatherFresh_29 (by decide) (by omega) (by omega) (fun c => absurd c (by omega)) (fun _ => ?_)
    refine J_aload_2 dX6_gatherFresh_32 ?_
    refine J_get dX6_gatherFresh_33 fl_X6_195 s0 rfl ?_
    refine J_iload_3 dX6_gatherFresh_36 ?_
    refine J_iald dX6_gatherFresh_37 s1 rfl (by omega) (by omega) ?_
    refine J_istore_4 dX6_gatherFresh_38 (Nat.le_of_ble_eq_true rfl) rfl ?_
    refine J_aload_2 dX6_gatherFresh_40 ?_
    refine J_get dX6_gatherFresh_41 fl_X6_201 s0 rfl ?_
    refine J_iload_3 dX6_gatherFresh_44 ?_
    refine J_iald dX6_gatherFresh_45 s3 rfl (by omega) (by omega) ?_
    refine J_aload_0 dX6_gatherFresh_46 ?_
    refine J_iload_4 dX6_gatherFresh_47 ?_
    refine J_cV1i dX6_gatherFresh_49 jmX6_lengthOf mv_X6_156 h0 rfl (Nat.le_of_ble_eq_true rfl) (by decide) (c_lengthOf p v0) ?_
    refine J_iconst (v := nI 1) dX6_gatherFresh_52 (by decide) ?_
    first | refine J_isubN dX6_gatherFresh_53 (by omega) ?_ | refine J_isub dX6_gatherFresh_53 ?_
    refine J_mminN dX6_gatherFresh_54 ms_X6_257 (by decide) (Nat.le_of_ble_eq_true rfl) (by omega) (by omega) ?_
    refine J_istore_5 dX6_gatherFresh_57 (Nat.le_of_ble_eq_true rfl) rfl ?_
    refine J_aload_0 dX6_gatherFresh_59 ?_
    refine J_aload_1 dX6_gatherFresh_60 ?_
    refine J_iload_4 dX6_gatherFresh_61 ?_
    refine J_aload_2 dX6_gatherFresh_63 ?_
    refine J_get dX6_gatherFresh_64 fl_X6_198 s0 rfl ?_
    refine J_iload_3 dX6_gatherFresh_67 ?_
    refine J_iald dX6_gatherFresh_68 s2 rfl (by omega) (by omega) ?_
    refine J_iload_5 dX6_gatherFresh_69 ?_
    refine J_cV4 dX6_gatherFresh_71 jmX6_addWithout mv_X6_260 h0 rfl (Nat.le_of_ble_eq_true rfl) (by decide) (ct) (fun r h' q => ?_)
    obtain ⟨rfl, f2, o2⟩ := q
    obtain ⟨gf, psf, agf⟩ := id f2
    first | refine J_inc_3 dX6_gatherFresh_74 (Nat.le_of_ble_eq_true rfl) rfl ?_ | refine J_iinc_3 dX6_gatherFresh_74 rfl (Nat.le_of_ble_eq_true rfl) rfl ?_
    refine J_goto (tgt := 24) dX6_gatherFresh_77 (by decide) ?_
    exact ih (i + 1) h' _ _ _ rfl (by omega) (dk_fl p o2 psf) ⟨g0, sp_other ps0 (fun b l u => o2 b (by omega)), ag0⟩ ⟨g1, sp_other ps1 (fun b l u => o2 b (by omega)), ag1⟩ f2 (by rw [List.append_assoc]; exact hL) (ho.tr (o2.wide (by omega) (by omega)))
theorem c_fresh (p : dkAt h D ca xs) : Ct X mX6_gatherFresh 3 [.ref 0] h (fun q h' => q = none ∧ dkAt h' D ca xs ∧ flAt h' (frs D) ∧ offB h h' 0 51) := by
  have hd : dok D := p.2.2.2.2.2.2.2.2.2.2.2.2.2
  have h0 := p.1
  refine Ct_of jmX6_gatherFresh [some (.ref 0), none, none, none, none, none] (Nat.le_of_ble_eq_true rfl) rfl ?_
  show J X RX6 cX6_gatherFresh 6 _ none _ 0 _ _ _
  refine J_aload_0 dX6_gatherFresh_0 ?_
  refine J_iconst (v := nI 0) dX6_gatherFresh_1 (by decide) ?_
  refine J_iconst (v := -1) dX6_gatherFresh_2 (by decide) ?_
  refine J_cV2 dX6_gatherFresh_3 jmX6_gather mv_X6_190 h0 rfl (Nat.le_of_ble_eq_true rfl) (by decide) (c_gather p (l := 0) (by decide) wN8) (fun r h' q => ?_)
  obtain ⟨rfl, p2, ⟨g0, ps0, ag0⟩, o2⟩ := q
  refine J_astore_1 dX6_gatherFresh_6 (Nat.le_of_ble_eq_true rfl) rfl ?_
  refine J_aload_0 dX6_gatherFresh_7 ?_
  refine J_iconst (v := nI 1) dX6_gatherFresh_8 (by decide) ?_
  refine J_iconst (v := -1) dX6_gatherFresh_9 (by decide) ?_
  refine J_cV2 dX6_gatherFresh_10 jmX6_gather mv_X6_190 p2.1 rfl (Nat.le_of_ble_eq_true rfl) (by decide) (c_gather p2 (l := 1) (by decide) wN8) (fun r h' q => ?_)
  obtain ⟨rfl, p3, q3, o3⟩ := q
  have q0 : plAt h' D 0 8 := ⟨g0, sp_other ps0 (fun b l u => o3 b (by omega)), ag0⟩
  obtain ⟨nf, gf, psf⟩ := p3.2.2.2.2.2.2.2.2.2.1
  have sf := psf.1
  have ps4 := sp_setN psf (m := 0) (Nat.zero_le _)
  have o4 : offB h' (hu h' 6 (oB 4 [.ref (6 + 1), .ref (6 + 2), .ref (6 + 3), .ref (6 + 4), .int (nI 0)])) 6 11 := offB.rf.hu (by omega) (by omega)
  refine J_astore_2 dX6_gatherFresh_13 (Nat.le_of_ble_eq_true rfl) rfl ?_
  refine J_aload_0 dX6_gatherFresh_14 ?_
  refine J_get dX6_gatherFresh_15 fl_X6_40 p3.1 rfl ?_
  refine J_iconst (v := nI 0) dX6_gatherFresh_18 (by decide) ?_
  refine J_put dX6_gatherFresh_19 fp_X6_194 sf (Nat.le_of_ble_eq_true rfl) rfl rfl ?_
  refine J_iconst (v := nI 0) dX6_gatherFresh_22 (by decide) ?_
  refine J_istore_3 dX6_gatherFresh_23 (Nat.le_of_ble_eq_true rfl) rfl ?_
  exact l_fresh hd (plN D 1 8) 0 _ [] none none rfl (by omega) (dk_fl p3 o4 ps4) (by obtain ⟨g, z, w⟩ := q0; exact ⟨g, sp_other z (fun b l u => o4 b (by omega)), w⟩) (by obtain ⟨g, z, w⟩ := q3; exact ⟨g, sp_other z (fun b l u => o4 b (by omega)), w⟩) ⟨gf, ps4, fun j hj => by simp at hj⟩ rfl (((o2.wide (by omega) (by omega)).tr (o3.wide (by omega) (by omega))).tr (o4.wide (by omega) (by omega)))
/-- all pieces are well -/
theorem awL_ok {g : Nat → Nat → Nat} {r lst : Nat} (hr : r < 6) (hl : lst < 2 ^ 18) : ∀ (k i a : Nat), ∀ q ∈ awL g r lst i k a, pcOk q := by
  intro k
  induction k with
  | zero =>
    intro i a q hq
    rw [awL] at hq
    split at hq
    · rename_i c
      rw [List.mem_singleton.mp hq]
      exact ⟨hr, c, hl⟩
    · cases hq
  | succ k ih =>
    intro i a q hq
    rw [awL] at hq
    split at hq
    · split at hq
      · rename_i c
        rcases List.mem_cons.mp hq with rfl | z
        · exact ⟨hr, Nat.le_min.mpr ⟨c.1, show a ≤ g i 1 - 1 by have := c.2; omega⟩, Nat.lt_of_le_of_lt (Nat.min_le_left _ _) hl⟩
        · exact ih _ _ q z
      · exact ih _ _ q hq
    · exact ih _ _ q hq
theorem frL_ok (hd : dok D) : ∀ (k i : Nat), i + k ≤ plN D 1 8 → ∀ q ∈ frL D i k, pcOk q := by
  obtain ⟨hN1, hP1⟩ := pl_P hd (l := 1) (w := 8) (by decide)
  intro k
  induction k with
  | zero => intro i _ q hq; cases hq
  | succ k ih =>
    intro i hi q hq
    rw [frL] at hq
    rcases List.mem_append.mp hq with z | z
    · exact awL_ok (hP1 i (by omega)).1 (Nat.lt_of_le_of_lt (Nat.min_le_left _ _) (hP1 i (by omega)).2.2.1) _ _ _ q z
    · exact ih (i + 1) (by omega) q z
theorem gl_V {L : List (Nat × Nat × Nat)} (h : ∀ q ∈ L, pcOk q) : spV (gl L) L.length := by
  intro j hj
  have e : L[j]? = some L[j] := List.getElem?_eq_getElem hj
  have ok := h L[j] (List.getElem_mem hj)
  have eg : gl L j = pv L[j] := by unfold gl; rw [e]
  rw [eg]
  exact ⟨ok.1, ok.2.1, Nat.lt_trans ok.2.2 (by decide)⟩
theorem nthk_agr {g g' : Nat → Nat → Nat} : ∀ (k i m : Nat), (∀ j, j < i + k → g j = g' j) → nthk g i k m = nthk g' i k m := by
  intro k
  induction k with
  | zero => intro i m _; rfl
  | succ k ih =>
    intro i m h
    rw [nthk, nthk, ih (i + 1) _ (fun j hj => h j (by omega)), h i (by omega)]
def sAnewN (D : DS) : Nat := frk (gl (frs D)) 0 (frs D).length
def sAnewI (D : DS) (i : Nat) : Int32 := oN (nthk (gl (frs D)) 0 (frs D).length i)
theorem c_anew_bad {i : Int32} (hb : ¬ i = -1) (hb2 : ¬ (0 ≤ i ∧ i < nI 10000)) : CtI X mX6_anew 4 [.ref 0, .int i] h (-2) := by
  refine Ct_of jmX6_anew [some (.ref 0), some (.int i)] (Nat.le_of_ble_eq_true rfl) rfl ?_
  show J X RX6 cX6_anew 2 _ (some .int) _ 0 _ _ _
  refine J_iload_1 dX6_anew_0 ?_
  refine J_iconst (v := -1) dX6_anew_1 (by decide) ?_
  refine J_icmp_eq (tgt := 18) dX6_anew_2 (by decide) (fun c => absurd c hb) (fun _ => ?_)
  refine J_iload_1 dX6_anew_5 ?_
  refine J_sipush (v := nI 10000) dX6_anew_6 (by decide) ?_
  refine J_cS2i dX6_anew_9 jmX6_isBelow ms_X6_60 (Nat.le_of_ble_eq_true rfl) (by decide) (c_nbelow hb2) ?_
  refine J_if_ne (tgt := 18) dX6_anew_12 (by decide) (fun c => absurd c (by decide)) (fun _ => ?_)
  refine J_bipush (v := -2) dX6_anew_15 (by decide) ?_
  exact J_iret dX6_anew_17 rfl (⟨rfl, rfl⟩)
theorem c_anew_n (p : dkAt h D ca xs) : Ct X mX6_anew 4 [.ref 0, .int (-1)] h (fun r h' => r = some (.int (nI (sAnewN D))) ∧ dkAt h' D ca xs ∧ offB h h' 0 51) := by
  have h0 := p.1
  have hd : dok D := p.2.2.2.2.2.2.2.2.2.2.2.2.2
  refine Ct_of jmX6_anew [some (.ref 0), some (.int (-1))] (Nat.le_of_ble_eq_true rfl) rfl ?_
  show J X RX6 cX6_anew 2 _ (some .int) _ 0 _ _ _
  refine J_iload_1 dX6_anew_0 ?_
  refine J_iconst (v := -1) dX6_anew_1 (by decide) ?_
  refine J_icmp_eq (tgt := 18) dX6_anew_2 (by decide) (fun _ => ?_) (fun c => absurd (rfl : (-1 : Int32) = -1) c)
  refine J_aload_0 dX6_anew_18 ?_
  refine J_cV0 dX6_anew_19 jmX6_gatherFresh mv_X6_251 h0 rfl (Nat.le_of_ble_eq_true rfl) (by decide) (c_fresh p) (fun r h' q => ?_)
  obtain ⟨rfl, p2, ⟨g, ps, ag⟩, o2⟩ := q
  have hf := c_spFrames (X := X) ps (fun j hj => by rw [ag j hj]; exact gl_V (frL_ok hd _ _ (by omega)) j hj)
  rw [frk_agr _ 0 (fun j hj => ag j (by omega))] at hf
  refine J_iload_1 dX6_anew_22 ?_
  refine J_iconst (v := -1) dX6_anew_23 (by decide) ?_
  refine J_icmp_ne (tgt := 37) dX6_anew_24 (by decide) (fun c => absurd c (fun z => z rfl)) (fun _ => ?_)
  refine J_aload_0 dX6_anew_27 ?_
  refine J_get dX6_anew_28 fl_X6_40 p2.1 rfl ?_
  refine J_cV0i dX6_anew_31 jmX5_frames mv_X6_211 ps.1 rfl (Nat.le_of_ble_eq_true rfl) (by decide) (hf) ?_
  refine J_goto (tgt := 45) dX6_anew_34 (by decide) ?_
  exact J_iret dX6_anew_45 rfl (⟨rfl, p2, o2⟩)
theorem c_anew_i (p : dkAt h D ca xs) {i : Nat} (hi : i < 10000) : Ct X mX6_anew 4 [.ref 0, .int (nI i)] h (fun r h' => r = some (.int (sAnewI D i)) ∧ dkAt h' D ca xs ∧ offB h h' 0 51) := by
  have h0 := p.1
  have hd : dok D := p.2.2.2.2.2.2.2.2.2.2.2.2.2
  have hne : ¬ nI i = -1 := oN_ne (by omega)
  refine Ct_of jmX6_anew [some (.ref 0), some (.int (nI i))] (Nat.le_of_ble_eq_true rfl) rfl ?_
  show J X RX6 cX6_anew 2 _ (some .int) _ 0 _ _ _
  refine J_iload_1 dX6_anew_0 ?_
  refine J_iconst (v := -1) dX6_anew_1 (by decide) ?_
  refine J_icmp_eq (tgt := 18) dX6_anew_2 (by decide) (fun c => absurd c hne) (fun _ => ?_)
  refine J_iload_1 dX6_anew_5 ?_
  refine J_sipush (v := nI 10000) dX6_anew_6 (by decide) ?_
  refine J_cS2i dX6_anew_9 jmX6_isBelow ms_X6_60 (Nat.le_of_ble_eq_true rfl) (by decide) (c_below hi (by decide)) ?_
  refine J_if_ne (tgt := 18) dX6_anew_12 (by decide) (fun _ => ?_) (fun c => absurd c (by decide))
  refine J_aload_0 dX6_anew_18 ?_
  refine J_cV0 dX6_anew_19 jmX6_gatherFresh mv_X6_251 h0 rfl (Nat.le_of_ble_eq_true rfl) (by decide) (c_fresh p) (fun r h' q => ?_)
  obtain ⟨rfl, p2, ⟨g, ps, ag⟩, o2⟩ := q
  have hf := c_nth (X := X) ps (fun j hj => by rw [ag j hj]; exact gl_V (frL_ok hd _ _ (by omega)) j hj) (m := i) (by omega)
  rw [nthk_agr _ 0 _ (fun j hj => ag j (by omega))] at hf
  refine J_iload_1 dX6_anew_22 ?_
  refine J_iconst (v := -1) dX6_anew_23 (by decide) ?_
  refine J_icmp_ne (tgt := 37) dX6_anew_24 (by decide) (fun _ => ?_) (fun c => absurd c hne)
  refine J_aload_0 dX6_anew_37 ?_
  refine J_get dX6_anew_38 fl_X6_40 p2.1 rfl ?_
  refine J_iload_1 dX6_anew_41 ?_
  refine J_cV1i dX6_anew_42 jmX5_nth mv_X6_254 ps.1 rfl (Nat.le_of_ble_eq_true rfl) (by decide) (hf) ?_
  exact J_iret dX6_anew_45 rfl (⟨rfl, p2, o2⟩)
end
