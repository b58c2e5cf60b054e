theorem wN8 : ∀ e, e < 8 → (nI e = (-1 : Int32) ↔ e = 8) := fun e he => ⟨fun z => absurd z (oN_ne (by omega)), fun z => by omega⟩
theorem wNe {w : Nat} (hw : w < 8) : ∀ e, e < 8 → (nI e = nI w ↔ e = w) := fun e he => nI_eq (by omega) (by omega)
/-- LACKING of a span -/
def lkN (D : DS) (v : Nat → Nat) : Nat := v 2 + 1 - max (v 1) (dl D (v 0))
def lkS (D : DS) (g : Nat → Nat → Nat) (i k : Nat) : Nat := match k with
  | 0 => 0
  | k + 1 => lkN D (g i) + lkS D g (i + 1) k
theorem lkS_agr {D : DS} {g g' : Nat → Nat → Nat} : ∀ (k i : Nat), (∀ j, j < i + k → g j = g' j) → lkS D g i k = lkS D g' i k := by
  intro k
  induction k with
  | zero => intro i _; rfl
  | succ k ih =>
    intro i h
    rw [lkS, lkS, ih (i + 1) (fun j hj => h j (by omega)), h i (by omega)]
theorem lackI {t m : Nat} (ht : t < 2 ^ 20) (hm : m < 2 ^ 20) : (if nI 0 < nI t - nI m + nI 1 then nI t - nI m + nI 1 else nI 0) = nI (t + 1 - m) := by
  have e : nI t - nI m + nI 1 = nI (t + 1) - nI m := by
    rw [← nI_add t 1, Int32.sub_eq_add_neg, Int32.sub_eq_add_neg, Int32.add_assoc, Int32.add_comm (-nI m), ← Int32.add_assoc]
  rw [e]
  exact max0N (by omega) (by omega)
def sPull (D : DS) (l i w : Nat) : Int32 := if i < plN D l 8 then (if w < 4 then nI (plG D l 8 i w) else nI (lkN D (plG D l 8 i))) else -1
section
variable {X : Cx} {h : HF} {D : DS} {ca : Nat → Nat} {xs : Nat → Nat → Nat → Nat}
theorem c_lacking (p : dkAt h D ca xs) {a cap n i : Nat} {g : Nat → Nat → Nat} (ps : spAt h a cap n g) (hv : spV g n) (hi : i < n) : CtI X mX6_lacking 2 [.ref 0, .ref a, .int (nI i)] h (nI (lkN D (g i))) := by
  obtain ⟨h0, h1, h2, h3, h4, hn, hcap⟩ := id ps
  have hvi := hv i hi
  have hdk := p.1
  have hlen := p.2.2.2.2.2.2.2.2.2.2.2.2.2.2.2.2.1 (g i 0) hvi.1
  refine Ct_of jmX6_lacking [some (.ref 0), some (.ref a), some (.int (nI i)), none] (Nat.le_of_ble_eq_true rfl) rfl ?_
  show J X RX6 cX6_lacking 4 _ (some .int) _ 0 _ _ _
  refine J_iload_2 dX6_lacking_0 ?_
  refine J_aload_1 dX6_lacking_1 ?_
  refine J_get dX6_lacking_2 fl_X6_194 h0 rfl ?_
  refine J_cS2i dX6_lacking_5 jmX6_isBelow ms_X6_60 (Nat.le_of_ble_eq_true rfl) (by decide) (c_below hi (by omega)) ?_
  refine J_if_ne (tgt := 13) dX6_lacking_8 (by decide) (fun _ => ?_) (fun c => absurd c (by decide))
  refine J_aload_1 dX6_lacking_13 ?_
  refine J_get dX6_lacking_14 fl_X6_198 h0 rfl ?_
  refine J_iload_2 dX6_lacking_17 ?_
  refine J_iald dX6_lacking_18 h2 rfl (by omega) (by omega) ?_
  refine J_aload_0 dX6_lacking_19 ?_
  refine J_aload_1 dX6_lacking_20 ?_
  refine J_get dX6_lacking_21 fl_X6_195 h0 rfl ?_
  refine J_iload_2 dX6_lacking_24 ?_
  refine J_iald dX6_lacking_25 h1 rfl (by omega) (by omega) ?_
  refine J_cV1i dX6_lacking_26 jmX6_lengthOf mv_X6_156 hdk rfl (Nat.le_of_ble_eq_true rfl) (by decide) (c_lengthOf p hvi.1) ?_
  refine J_mmaxN dX6_lacking_29 ms_X6_222 (by decide) (Nat.le_of_ble_eq_true rfl) (by omega) (by omega) ?_
  refine J_istore_3 dX6_lacking_32 (Nat.le_of_ble_eq_true rfl) rfl ?_
  refine J_iconst (v := nI 0) dX6_lacking_33 (by decide) ?_
  refine J_aload_1 dX6_lacking_34 ?_
  refine J_get dX6_lacking_35 fl_X6_201 h0 rfl ?_
  refine J_iload_2 dX6_lacking_38 ?_
  refine J_iald dX6_lacking_39 h3 rfl (by omega) (by omega) ?_
  refine J_iload_3 dX6_lacking_40 ?_
  refine J_isub dX6_lacking_41 ?_
  refine J_iconst (v := nI 1) dX6_lacking_42 (by decide) ?_
  refine J_iadd dX6_lacking_43 ?_
  refine J_mmax dX6_lacking_44 ms_X6_222 (by decide) (Nat.le_of_ble_eq_true rfl) ?_
  refine J_topi (lackI (by omega) (by omega)) ?_
  exact J_iret dX6_lacking_47 rfl (⟨rfl, rfl⟩)
theorem l_lackAll (p : dkAt h D ca xs) {a cap n : Nat} {g : Nat → Nat → Nat} (ps : spAt h a cap n g) (hv : spV g n) : ∀ (k i s : Nat), i + k = n → J X RX6 cX6_lackingOfAll 4 3 (some .int) (fun r h' => r = some (.int (nI (s + lkS D g i k))) ∧ h' = h) 4 [some (.ref 0), some (.ref a), some (.int (nI s)), some (.int (nI i))] [] h := by
  have h0 := ps.1
  have hcap := ps.2.2.2.2.2
  have hdk := p.1
  intro k
  induction k with
  | zero =>
    intro i s hi
    refine J_iload_3 dX6_lackingOfAll_4 ?_
    refine J_aload_1 dX6_lackingOfAll_5 ?_
    refine J_get dX6_lackingOfAll_6 fl_X6_194 h0 rfl ?_
    refine J_icmp_geN (tgt := 27) dX6_lackingOfAll_9 (by decide) (by omega) (by omega) (fun _ => ?_) (fun c => absurd c (by omega))
    refine J_iload_2 dX6_lackingOfAll_27 ?_
    exact J_iret dX6_lackingOfAll_28 rfl (⟨rfl, rfl⟩)
  | succ k ih =>
    intro i s hi
    rw [show s + lkS D g i (k + 1) = s + lkN D (g i) + lkS D g (i + 1) k from by rw [lkS]; omega]
    refine J_iload_3 dX6_lackingOfAll_4 ?_
    refine J_aload_1 dX6_lackingOfAll_5 ?_
    refine J_get dX6_lackingOfAll_6 fl_X6_194 h0 rfl ?_
    refine J_icmp_geN (tgt := 27) dX6_lackingOfAll_9 (by decide) (by omega) (by omega) (fun c => absurd c (by omega)) (fun _ => ?_)
    refine J_iload_2 dX6_lackingOfAll_12 ?_
    refine J_aload_0 dX6_lackingOfAll_13 ?_
    refine J_aload_1 dX6_lackingOfAll_14 ?_
    refine J_iload_3 dX6_lackingOfAll_15 ?_
    refine J_cV2i dX6_lackingOfAll_16 jmX6_lacking mv_X6_207 hdk rfl (Nat.le_of_ble_eq_true rfl) (by decide) (c_lacking p ps hv (by omega)) ?_
    first | refine J_iaddN dX6_lackingOfAll_19 ?_ | refine J_iadd dX6_lackingOfAll_19 ?_
    refine J_istore_2 dX6_lackingOfAll_20 (Nat.le_of_ble_eq_true rfl) rfl ?_
    first | refine J_inc_3 dX6_lackingOfAll_21 (Nat.le_of_ble_eq_true rfl) rfl ?_ | refine J_iinc_3 dX6_lackingOfAll_21 rfl (Nat.le_of_ble_eq_true rfl) rfl ?_
    refine J_goto (tgt := 4) dX6_lackingOfAll_24 (by decide) ?_
    exact ih (i + 1) _ (by omega)
theorem c_lackAll (p : dkAt h D ca xs) {a cap n : Nat} {g : Nat → Nat → Nat} (ps : spAt h a cap n g) (hv : spV g n) : CtI X mX6_lackingOfAll 3 [.ref 0, .ref a] h (nI (lkS D g 0 n)) := by
  have e := l_lackAll (X := X) p ps hv n 0 0 (by omega)
  rw [Nat.zero_add] at e
  refine Ct_of jmX6_lackingOfAll [some (.ref 0), some (.ref a), none, none] (Nat.le_of_ble_eq_true rfl) rfl ?_
  show J X RX6 cX6_lackingOfAll 4 _ (some .int) _ 0 _ _ _
  refine J_iconst (v := nI 0) dX6_lackingOfAll_0 (by decide) ?_
  refine J_istore_2 dX6_lackingOfAll_1 (Nat.le_of_ble_eq_true rfl) rfl ?_
  refine J_iconst (v := nI 0) dX6_lackingOfAll_2 (by decide) ?_
  refine J_istore_3 dX6_lackingOfAll_3 (Nat.le_of_ble_eq_true rfl) rfl ?_
  exact e
theorem c_pulls_bad {l : Int32} (hb : ¬ (0 ≤ l ∧ l < nI 2)) : CtI X mX6_pulls 3 [.ref 0, .int l] h (-2) := by
  refine Ct_of jmX6_pulls [some (.ref 0), some (.int l)] (Nat.le_of_ble_eq_true rfl) rfl ?_
  show J X RX6 cX6_pulls 2 _ (some .int) _ 0 _ _ _
  refine J_iload_1 dX6_pulls_0 ?_
  refine J_iconst (v := nI 2) dX6_pulls_1 (by decide) ?_
  refine J_cS2i dX6_pulls_2 jmX6_isBelow ms_X6_60 (Nat.le_of_ble_eq_true rfl) (by decide) (c_nbelow hb) ?_
  refine J_if_eq (tgt := 20) dX6_pulls_5 (by decide) (fun _ => ?_) (fun c => absurd (by decide) c)
  refine J_bipush (v := -2) dX6_pulls_20 (by decide) ?_
  exact J_iret dX6_pulls_22 rfl (⟨rfl, rfl⟩)
theorem c_pulls_ok (p : dkAt h D ca xs) {l : Nat} (hl : l < 2) : Ct X mX6_pulls 3 [.ref 0, .int (nI l)] h (fun r h' => r = some (.int (nI (plN D l 8))) ∧ dkAt h' D ca xs ∧ offB h h' 0 51) := by
  have h0 := p.1
  refine Ct_of jmX6_pulls [some (.ref 0), some (.int (nI l))] (Nat.le_of_ble_eq_true rfl) rfl ?_
  show J X RX6 cX6_pulls 2 _ (some .int) _ 0 _ _ _
  refine J_iload_1 dX6_pulls_0 ?_
  refine J_iconst (v := nI 2) dX6_pulls_1 (by decide) ?_
  refine J_cS2i dX6_pulls_2 jmX6_isBelow ms_X6_60 (Nat.le_of_ble_eq_true rfl) (by decide) (c_below hl (by decide)) ?_
  refine J_if_eq (tgt := 20) dX6_pulls_5 (by decide) (fun c => absurd c (by decide)) (fun _ => ?_)
  refine J_aload_0 dX6_pulls_8 ?_
  refine J_iload_1 dX6_pulls_9 ?_
  refine J_iconst (v := -1) dX6_pulls_10 (by decide) ?_
  refine J_cV2 dX6_pulls_11 jmX6_gather mv_X6_190 h0 rfl (Nat.le_of_ble_eq_true rfl) (by decide) (c_gather p hl wN8) (fun r h' q => ?_)
  obtain ⟨rfl, p2, ⟨g, ps, ag⟩, o2⟩ := q
  have hsp := ps.1
  refine J_get dX6_pulls_14 fl_X6_194 hsp rfl ?_
  refine J_goto (tgt := 22) dX6_pulls_17 (by decide) ?_
  exact J_iret dX6_pulls_22 rfl (⟨rfl, p2, o2.wide (by omega) (by omega)⟩)
theorem c_pull_bad {l i w : Int32} (hb : ¬ ((∃ j, j < 2 ∧ l = nI j) ∧ (∃ k, k < 8 ∧ i = nI k) ∧ ∃ u, u < 5 ∧ w = nI u)) : CtI X mX6_pull 3 [.ref 0, .int l, .int i, .int w] h (-2) := by
  refine Ct_of jmX6_pull [some (.ref 0), some (.int l), some (.int i), some (.int w), none] (Nat.le_of_ble_eq_true rfl) rfl ?_
  show J X RX6 cX6_pull 5 _ (some .int) _ 0 _ _ _
  rcases ix_cases l 2 (by decide) with ⟨j, hj, rfl⟩ | hl
  · rcases ix_cases i 8 (by decide) with ⟨k, hk, rfl⟩ | hi
    · rcases ix_cases w 5 (by decide) with ⟨u, hu, rfl⟩ | hw
      · exact absurd ⟨⟨j, hj, rfl⟩, ⟨k, hk, rfl⟩, u, hu, rfl⟩ hb
      · refine J_iload_1 dX6_pull_0 ?_
        refine J_iconst (v := nI 2) dX6_pull_1 (by decide) ?_
        refine J_cS2i dX6_pull_2 jmX6_isBelow ms_X6_60 (Nat.le_of_ble_eq_true rfl) (by decide) (c_below hj (by decide)) ?_
        refine J_if_eq (tgt := 25) dX6_pull_5 (by decide) (fun c => absurd c (by decide)) (fun _ => ?_)
        refine J_iload_2 dX6_pull_8 ?_
        refine J_bipush (v := nI 8) dX6_pull_9 (by decide) ?_
        refine J_cS2i dX6_pull_11 jmX6_isBelow ms_X6_60 (Nat.le_of_ble_eq_true rfl) (by decide) (c_below hk (by decide)) ?_
        refine J_if_eq (tgt := 25) dX6_pull_14 (by decide) (fun c => absurd c (by decide)) (fun _ => ?_)
        refine J_iload_3 dX6_pull_17 ?_
        refine J_iconst (v := nI 5) dX6_pull_18 (by decide) ?_
        refine J_cS2i dX6_pull_19 jmX6_isBelow ms_X6_60 (Nat.le_of_ble_eq_true rfl) (by decide) (c_nbelow hw) ?_
        refine J_if_ne (tgt := 28) dX6_pull_22 (by decide) (fun c => absurd c (by decide)) (fun _ => ?_)
        refine J_bipush (v := -2) dX6_pull_25 (by decide) ?_
        exact J_iret dX6_pull_27 rfl (⟨rfl, rfl⟩)
    · refine J_iload_1 dX6_pull_0 ?_
      refine J_iconst (v := nI 2) dX6_pull_1 (by decide) ?_
      refine J_cS2i dX6_pull_2 jmX6_isBelow ms_X6_60 (Nat.le_of_ble_eq_true rfl) (by decide) (c_below hj (by decide)) ?_
      refine J_if_eq (tgt := 25) dX6_pull_5 (by decide) (fun c => absurd c (by decide)) (fun _ => ?_)
      refine J_iload_2 dX6_pull_8 ?_
      refine J_bipush (v := nI 8) dX6_pull_9 (by decide) ?_
      refine J_cS2i dX6_pull_11 jmX6_isBelow ms_X6_60 (Nat.le_of_ble_eq_true rfl) (by decide) (c_nbelow hi) ?_
      refine J_if_eq (tgt := 25) dX6_pull_14 (by decide) (fun _ => ?_) (fun c => absurd (by decide) c)
      refine J_bipush (v := -2) dX6_pull_25 (by decide) ?_
      exact J_iret dX6_pull_27 rfl (⟨rfl, rfl⟩)
  · refine J_iload_1 dX6_pull_0 ?_
    refine J_iconst (v := nI 2) dX6_pull_1 (by decide) ?_
    refine J_cS2i dX6_pull_2 jmX6_isBelow ms_X6_60 (Nat.le_of_ble_eq_true rfl) (by decide) (c_nbelow hl) ?_
    refine J_if_eq (tgt := 25) dX6_pull_5 (by decide) (fun _ => ?_) (fun c => absurd (by decide) c)
    refine J_bipush (v := -2) dX6_pull_25 (by decide) ?_
    exact J_iret dX6_pull_27 rfl (⟨rfl, rfl⟩)
theorem c_pull_ok (p : dkAt h D ca xs) {l i w : Nat} (hl : l < 2) (hi : i < 8) (hw : w < 5) : Ct X mX6_pull 3 [.ref 0, .int (nI l), .int (nI i), .int (nI w)] h (fun r h' => r = some (.int (sPull D l i w)) ∧ dkAt h' D ca xs ∧ offB h h' 0 51) := by
  have h0 := p.1
  have hd : dok D := p.2.2.2.2.2.2.2.2.2.2.2.2.2
  obtain ⟨hN, hP⟩ := pl_P hd (w := 8) hl
  refine Ct_of jmX6_pull [some (.ref 0), some (.int (nI l)), some (.int (nI i)), some (.int (nI w)), none] (Nat.le_of_ble_eq_true rfl) rfl ?_
  show J X RX6 cX6_pull 5 _ (some .int) _ 0 _ _ _
  by_cases hq : i < plN D l 8
  · rcases (show w = 0 ∨ w = 1 ∨ w = 2 ∨ w = 3 ∨ w = 4 by omega) with rfl | rfl | rfl | rfl | rfl
    · refine J_iload_1 dX6_pull_0 ?_
      refine J_iconst (v := nI 2) dX6_pull_1 (by decide) ?_
      refine J_cS2i dX6_pull_2 jmX6_isBelow ms_X6_60 (Nat.le_of_ble_eq_true rfl) (by decide) (c_below hl (by decide)) ?_
      refine J_if_eq (tgt := 25) dX6_pull_5 (by decide) (fun c => absurd c (by decide)) (fun _ => ?_)
      refine J_iload_2 dX6_pull_8 ?_
      refine J_bipush (v := nI 8) dX6_pull_9 (by decide) ?_
      refine J_cS2i dX6_pull_11 jmX6_isBelow ms_X6_60 (Nat.le_of_ble_eq_true rfl) (by decide) (c_below hi (by decide)) ?_
      refine J_if_eq (tgt := 25) dX6_pull_14 (by decide) (fun c => absurd c (by decide)) (fun _ => ?_)
      refine J_iload_3 dX6_pull_17 ?_
      refine J_iconst (v := nI 5) dX6_pull_18 (by decide) ?_
      refine J_cS2i dX6_pull_19 jmX6_isBelow ms_X6_60 (Nat.le_of_ble_eq_true rfl) (by decide) (c_below hw (by decide)) ?_
      refine J_if_ne (tgt := 28) dX6_pull_22 (by decide) (fun _ => ?_) (fun c => absurd c (by decide))
      refine J_aload_0 dX6_pull_28 ?_
      refine J_iload_1 dX6_pull_29 ?_
      refine J_iconst (v := -1) dX6_pull_30 (by decide) ?_
      refine J_cV2 dX6_pull_31 jmX6_gather mv_X6_190 h0 rfl (Nat.le_of_ble_eq_true rfl) (by decide) (c_gather p hl wN8) (fun r h' q => ?_)
      obtain ⟨rfl, p2, ⟨g, ps, ag⟩, o2⟩ := q
      obtain ⟨s0, s1, s2, s3, s4, hn, hcap⟩ := id ps
      have es : sPull D l i 0 = _ := if_pos hq
      have ag2 := ag i hq
      refine J_astore_4 dX6_pull_34 (Nat.le_of_ble_eq_true rfl) rfl ?_
      refine J_iload_2 dX6_pull_36 ?_
      refine J_aload_4 dX6_pull_37 ?_
      refine J_get dX6_pull_39 fl_X6_194 s0 rfl ?_
      refine J_cS2i dX6_pull_42 jmX6_isBelow ms_X6_60 (Nat.le_of_ble_eq_true rfl) (by decide) (c_below hq (by omega)) ?_
      refine J_if_ne (tgt := 50) dX6_pull_45 (by decide) (fun _ => ?_) (fun c => absurd c (by decide))
      refine J_iload_3 dX6_pull_50 ?_
      refine J_tabN (tgt := 80) dX6_pull_51 (by decide) (by decide) rfl (by decide) ?_
      refine J_aload_4 dX6_pull_80 ?_
      refine J_get dX6_pull_82 fl_X6_195 s0 rfl ?_
      refine J_iload_2 dX6_pull_85 ?_
      refine J_iald dX6_pull_86 s1 rfl (by omega) (by omega) ?_
      exact J_iret dX6_pull_87 rfl (⟨by rw [es, ag2]; rfl, p2, o2.wide (by omega) (by omega)⟩)
    · refine J_iload_1 dX6_pull_0 ?_
      refine J_iconst (v := nI 2) dX6_pull_1 (by decide) ?_
      refine J_cS2i dX6_pull_2 jmX6_isBelow ms_X6_60 (Nat.le_of_ble_eq_true rfl) (by decide) (c_below hl (by decide)) ?_
      refine J_if_eq (tgt := 25) dX6_pull_5 (by decide) (fun c => absurd c (by decide)) (fun _ => ?_)
      refine J_iload_2 dX6_pull_8 ?_
      refine J_bipush (v := nI 8) dX6_pull_9 (by decide) ?_
      refine J_cS2i dX6_pull_11 jmX6_isBelow ms_X6_60 (Nat.le_of_ble_eq_true rfl) (by decide) (c_below hi (by decide)) ?_
      refine J_if_eq (tgt := 25) dX6_pull_14 (by decide) (fun c => absurd c (by decide)) (fun _ => ?_)
      refine J_iload_3 dX6_pull_17 ?_
      refine J_iconst (v := nI 5) dX6_pull_18 (by decide) ?_
      refine J_cS2i dX6_pull_19 jmX6_isBelow ms_X6_60 (Nat.le_of_ble_eq_true rfl) (by decide) (c_below hw (by decide)) ?_
      refine J_if_ne (tgt := 28) dX6_pull_22 (by decide) (fun _ => ?_) (fun c => absurd c (by decide))
      refine J_aload_0 dX6_pull_28 ?_
      refine J_iload_1 dX6_pull_29 ?_
      refine J_iconst (v := -1) dX6_pull_30 (by decide) ?_
      refine J_cV2 dX6_pull_31 jmX6_gather mv_X6_190 h0 rfl (Nat.le_of_ble_eq_true rfl) (by decide) (c_gather p hl wN8) (fun r h' q => ?_)
      obtain ⟨rfl, p2, ⟨g, ps, ag⟩, o2⟩ := q
      obtain ⟨s0, s1, s2, s3, s4, hn, hcap⟩ := id ps
      have es : sPull D l i 1 = _ := if_pos hq
      have ag2 := ag i hq
      refine J_astore_4 dX6_pull_34 (Nat.le_of_ble_eq_true rfl) rfl ?_
      refine J_iload_2 dX6_pull_36 ?_
      refine J_aload_4 dX6_pull_37 ?_
      refine J_get dX6_pull_39 fl_X6_194 s0 rfl ?_
      refine J_cS2i dX6_pull_42 jmX6_isBelow ms_X6_60 (Nat.le_of_ble_eq_true rfl) (by decide) (c_below hq (by omega)) ?_
      refine J_if_ne (tgt := 50) dX6_pull_45 (by decide) (fun _ => ?_) (fun c => absurd c (by decide))
      refine J_iload_3 dX6_pull_50 ?_
      refine J_tabN (tgt := 88) dX6_pull_51 (by decide) (by decide) rfl (by decide) ?_
      refine J_aload_4 dX6_pull_88 ?_
      refine J_get dX6_pull_90 fl_X6_198 s0 rfl ?_
      refine J_iload_2 dX6_pull_93 ?_
      refine J_iald dX6_pull_94 s2 rfl (by omega) (by omega) ?_
      exact J_iret dX6_pull_95 rfl (⟨by rw [es, ag2]; rfl, p2, o2.wide (by omega) (by omega)⟩)
    · refine J_iload_1 dX6_pull_0 ?_
      refine J_iconst (v := nI 2) dX6_pull_1 (by decide) ?_
      refine J_cS2i dX6_pull_2 jmX6_isBelow ms_X6_60 (Nat.le_of_ble_eq_true rfl) (by decide) (c_below hl (by decide)) ?_
      refine J_if_eq (tgt := 25) dX6_pull_5 (by decide) (fun c => absurd c (by decide)) (fun _ => ?_)
      refine J_iload_2 dX6_pull_8 ?_
      refine J_bipush (v := nI 8) dX6_pull_9 (by decide) ?_
      refine J_cS2i dX6_pull_11 jmX6_isBelow ms_X6_60 (Nat.le_of_ble_eq_true rfl) (by decide) (c_below hi (by decide)) ?_
      refine J_if_eq (tgt := 25) dX6_pull_14 (by decide) (fun c => absurd c (by decide)) (fun _ => ?_)
      refine J_iload_3 dX6_pull_17 ?_
      refine J_iconst (v := nI 5) dX6_pull_18 (by decide) ?_
      refine J_cS2i dX6_pull_19 jmX6_isBelow ms_X6_60 (Nat.le_of_ble_eq_true rfl) (by decide) (c_below hw (by decide)) ?_
      refine J_if_ne (tgt := 28) dX6_pull_22 (by decide) (fun _ => ?_) (fun c => absurd c (by decide))
      refine J_aload_0 dX6_pull_28 ?_
      refine J_iload_1 dX6_pull_29 ?_
      refine J_iconst (v := -1) dX6_pull_30 (by decide) ?_
      refine J_cV2 dX6_pull_31 jmX6_gather mv_X6_190 h0 rfl (Nat.le_of_ble_eq_true rfl) (by decide) (c_gather p hl wN8) (fun r h' q => ?_)
      obtain ⟨rfl, p2, ⟨g, ps, ag⟩, o2⟩ := q
      obtain ⟨s0, s1, s2, s3, s4, hn, hcap⟩ := id ps
      have es : sPull D l i 2 = _ := if_pos hq
      have ag2 := ag i hq
      refine J_astore_4 dX6_pull_34 (Nat.le_of_ble_eq_true rfl) rfl ?_
      refine J_iload_2 dX6_pull_36 ?_
      refine J_aload_4 dX6_pull_37 ?_
      refine J_get dX6_pull_39 fl_X6_194 s0 rfl ?_
      refine J_cS2i dX6_pull_42 jmX6_isBelow ms_X6_60 (Nat.le_of_ble_eq_true rfl) (by decide) (c_below hq (by omega)) ?_
      refine J_if_ne (tgt := 50) dX6_pull_45 (by decide) (fun _ => ?_) (fun c => absurd c (by decide))
      refine J_iload_3 dX6_pull_50 ?_
      refine J_tabN (tgt := 96) dX6_pull_51 (by decide) (by decide) rfl (by decide) ?_
      refine J_aload_4 dX6_pull_96 ?_
      refine J_get dX6_pull_98 fl_X6_201 s0 rfl ?_
      refine J_iload_2 dX6_pull_101 ?_
      refine J_iald dX6_pull_102 s3 rfl (by omega) (by omega) ?_
      exact J_iret dX6_pull_103 rfl (⟨by rw [es, ag2]; rfl, p2, o2.wide (by omega) (by omega)⟩)
    · refine J_iload_1 dX6_pull_0 ?_
      refine J_iconst (v := nI 2) dX6_pull_1 (by decide) ?_
      refine J_cS2i dX6_pull_2 jmX6_isBelow ms_X6_60 (Nat.le_of_ble_eq_true rfl) (by decide) (c_below hl (by decide)) ?_
      refine J_if_eq (tgt := 25) dX6_pull_5 (by decide) (fun c => absurd c (by decide)) (fun _ => ?_)
      refine J_iload_2 dX6_pull_8 ?_
      refine J_bipush (v := nI 8) dX6_pull_9 (by decide) ?_
      refine J_cS2i dX6_pull_11 jmX6_isBelow ms_X6_60 (Nat.le_of_ble_eq_true rfl) (by decide) (c_below hi (by decide)) ?_
      refine J_if_eq (tgt := 25) dX6_pull_14 (by decide) (fun c => absurd c (by decide)) (fun _ => ?_)
      refine J_iload_3 dX6_pull_17 ?_
      refine J_iconst (v := nI 5) dX6_pull_18 (by decide) ?_
      refine J_cS2i dX6_pull_19 jmX6_isBelow ms_X6_60 (Nat.le_of_ble_eq_true rfl) (by decide) (c_below hw (by decide)) ?_
      refine J_if_ne (tgt := 28) dX6_pull_22 (by decide) (fun _ => ?_) (fun c => absurd c (by decide))
      refine J_aload_0 dX6_pull_28 ?_
      refine J_iload_1 dX6_pull_29 ?_
      refine J_iconst (v := -1) dX6_pull_30 (by decide) ?_
      refine J_cV2 dX6_pull_31 jmX6_gather mv_X6_190 h0 rfl (Nat.le_of_ble_eq_true rfl) (by decide) (c_gather p hl wN8) (fun r h' q => ?_)
      obtain ⟨rfl, p2, ⟨g, ps, ag⟩, o2⟩ := q
      obtain ⟨s0, s1, s2, s3, s4, hn, hcap⟩ := id ps
      have es : sPull D l i 3 = _ := if_pos hq
      have ag2 := ag i hq
      refine J_astore_4 dX6_pull_34 (Nat.le_of_ble_eq_true rfl) rfl ?_
      refine J_iload_2 dX6_pull_36 ?_
      refine J_aload_4 dX6_pull_37 ?_
      refine J_get dX6_pull_39 fl_X6_194 s0 rfl ?_
      refine J_cS2i dX6_pull_42 jmX6_isBelow ms_X6_60 (Nat.le_of_ble_eq_true rfl) (by decide) (c_below hq (by omega)) ?_
      refine J_if_ne (tgt := 50) dX6_pull_45 (by decide) (fun _ => ?_) (fun c => absurd c (by decide))
      refine J_iload_3 dX6_pull_50 ?_
      refine J_tabN (tgt := 104) dX6_pull_51 (by decide) (by decide) rfl (by decide) ?_
      refine J_aload_4 dX6_pull_104 ?_
      refine J_get dX6_pull_106 fl_X6_204 s0 rfl ?_
      refine J_iload_2 dX6_pull_109 ?_
      refine J_iald dX6_pull_110 s4 rfl (by omega) (by omega) ?_
      exact J_iret dX6_pull_111 rfl (⟨by rw [es, ag2]; rfl, p2, o2.wide (by omega) (by omega)⟩)
    · refine J_iload_1 dX6_pull_0 ?_
      refine J_iconst (v := nI 2) dX6_pull_1 (by decide) ?_
      refine J_cS2i dX6_pull_2 jmX6_isBelow ms_X6_60 (Nat.le_of_ble_eq_true rfl) (by decide) (c_below hl (by decide)) ?_
      refine J_if_eq (tgt := 25) dX6_pull_5 (by decide) (fun c => absurd c (by decide)) (fun _ => ?_)
      refine J_iload_2 dX6_pull_8 ?_
      refine J_bipush (v := nI 8) dX6_pull_9 (by decide) ?_
      refine J_cS2i dX6_pull_11 jmX6_isBelow ms_X6_60 (Nat.le_of_ble_eq_true rfl) (by decide) (c_below hi (by decide)) ?_
      refine J_if_eq (tgt := 25) dX6_pull_14 (by decide) (fun c => absurd c (by decide)) (fun _ => ?_)
      refine J_iload_3 dX6_pull_17 ?_
      refine J_iconst (v := nI 5) dX6_pull_18 (by decide) ?_
      refine J_cS2i dX6_pull_19 jmX6_isBelow ms_X6_60 (Nat.le_of_ble_eq_true rfl) (by decide) (c_below hw (by decide)) ?_
      refine J_if_ne (tgt := 28) dX6_pull_22 (by decide) (fun _ => ?_) (fun c => absurd c (by decide))
      refine J_aload_0 dX6_pull_28 ?_
      refine J_iload_1 dX6_pull_29 ?_
      refine J_iconst (v := -1) dX6_pull_30 (by decide) ?_
      refine J_cV2 dX6_pull_31 jmX6_gather mv_X6_190 h0 rfl (Nat.le_of_ble_eq_true rfl) (by decide) (c_gather p hl wN8) (fun r h' q => ?_)
      obtain ⟨rfl, p2, ⟨g, ps, ag⟩, o2⟩ := q
      obtain ⟨s0, s1, s2, s3, s4, hn, hcap⟩ := id ps
      have es : sPull D l i 4 = _ := if_pos hq
      have ag2 := ag i hq
      refine J_astore_4 dX6_pull_34 (Nat.le_of_ble_eq_true rfl) rfl ?_
      refine J_iload_2 dX6_pull_36 ?_
      refine J_aload_4 dX6_pull_37 ?_
      refine J_get dX6_pull_39 fl_X6_194 s0 rfl ?_
      refine J_cS2i dX6_pull_42 jmX6_isBelow ms_X6_60 (Nat.le_of_ble_eq_true rfl) (by decide) (c_below hq (by omega)) ?_
      refine J_if_ne (tgt := 50) dX6_pull_45 (by decide) (fun _ => ?_) (fun c => absurd c (by decide))
      refine J_iload_3 dX6_pull_50 ?_
      refine J_tabNo (tgt := 112) dX6_pull_51 (by decide) (by decide) (by decide) ?_
      refine J_aload_0 dX6_pull_112 ?_
      refine J_aload_4 dX6_pull_113 ?_
      refine J_iload_2 dX6_pull_115 ?_
      refine J_cV2i dX6_pull_116 jmX6_lacking mv_X6_207 p2.1 rfl (Nat.le_of_ble_eq_true rfl) (by decide) (c_lacking p2 ps (fun j hj => by rw [ag j hj]; exact spV_of hP j hj) hq) ?_
      exact J_iret dX6_pull_119 rfl (⟨by rw [es, ag2]; rfl, p2, o2.wide (by omega) (by omega)⟩)
  · refine J_iload_1 dX6_pull_0 ?_
    refine J_iconst (v := nI 2) dX6_pull_1 (by decide) ?_
    refine J_cS2i dX6_pull_2 jmX6_isBelow ms_X6_60 (Nat.le_of_ble_eq_true rfl) (by decide) (c_below hl (by decide)) ?_
    refine J_if_eq (tgt := 25) dX6_pull_5 (by decide) (fun c => absurd c (by decide)) (fun _ => ?_)
    refine J_iload_2 dX6_pull_8 ?_
    refine J_bipush (v := nI 8) dX6_pull_9 (by decide) ?_
    refine J_cS2i dX6_pull_11 jmX6_isBelow ms_X6_60 (Nat.le_of_ble_eq_true rfl) (by decide) (c_below hi (by decide)) ?_
    refine J_if_eq (tgt := 25) dX6_pull_14 (by decide) (fun c => absurd c (by decide)) (fun _ => ?_)
    refine J_iload_3 dX6_pull_17 ?_
    refine J_iconst (v := nI 5) dX6_pull_18 (by decide) ?_
    refine J_cS2i dX6_pull_19 jmX6_isBelow ms_X6_60 (Nat.le_of_ble_eq_true rfl) (by decide) (c_below hw (by decide)) ?_
    refine J_if_ne (tgt := 28) dX6_pull_22 (by decide) (fun _ => ?_) (fun c => absurd c (by decide))
    refine J_aload_0 dX6_pull_28 ?_
    refine J_iload_1 dX6_pull_29 ?_
    refine J_iconst (v := -1) dX6_pull_30 (by decide) ?_
    refine J_cV2 dX6_pull_31 jmX6_gather mv_X6_190 h0 rfl (Nat.le_of_ble_eq_true rfl) (by decide) (c_gather p hl wN8) (fun r h' q => ?_)
    obtain ⟨rfl, p2, ⟨g, ps, ag⟩, o2⟩ := q
    have s0 := ps.1
    refine J_astore_4 dX6_pull_34 (Nat.le_of_ble_eq_true rfl) rfl ?_
    refine J_iload_2 dX6_pull_36 ?_
    refine J_aload_4 dX6_pull_37 ?_
    refine J_get dX6_pull_39 fl_X6_194 s0 rfl ?_
    refine J_cS2i dX6_pull_42 jmX6_isBelow ms_X6_60 (Nat.le_of_ble_eq_true rfl) (by decide) (c_nbelow (fun z => hq ((nI_ltI (by omega) (by omega)).mp z.2))) ?_
    refine J_if_ne (tgt := 50) dX6_pull_45 (by decide) (fun c => absurd c (by decide)) (fun _ => ?_)
    refine J_iconst (v := -1) dX6_pull_48 (by decide) ?_
    exact J_iret dX6_pull_49 rfl (⟨by rw [show sPull D l i w = -1 from if_neg hq], p2, o2.wide (by omega) (by omega)⟩)
def sWaste (D : DS) (l : Nat) : Int32 := nI (frk (plG D l 8) 0 (plN D l 8)) - nI (sh (de D l) (dn D l) 0 (dn D l))
theorem c_waste_bad {l : Int32} (hb : ¬ (0 ≤ l ∧ l < nI 2)) : CtI X mX6_waste 4 [.ref 0, .int l] h (-2) := by
  refine Ct_of jmX6_waste [some (.ref 0), some (.int l)] (Nat.le_of_ble_eq_true rfl) rfl ?_
  show J X RX6 cX6_waste 2 _ (some .int) _ 0 _ _ _
  refine J_iload_1 dX6_waste_0 ?_
  refine J_iconst (v := nI 2) dX6_waste_1 (by decide) ?_
  refine J_cS2i dX6_waste_2 jmX6_isBelow ms_X6_60 (Nat.le_of_ble_eq_true rfl) (by decide) (c_nbelow hb) ?_
  refine J_if_eq (tgt := 30) dX6_waste_5 (by decide) (fun _ => ?_) (fun c => absurd (by decide) c)
  refine J_bipush (v := -2) dX6_waste_30 (by decide) ?_
  exact J_iret dX6_waste_32 rfl (⟨rfl, rfl⟩)
theorem c_waste_ok (p : dkAt h D ca xs) {l : Nat} (hl : l < 2) : Ct X mX6_waste 4 [.ref 0, .int (nI l)] h (fun r h' => r = some (.int (sWaste D l)) ∧ dkAt h' D ca xs ∧ offB h h' 0 51) := by
  have h0 := p.1
  have hd : dok D := p.2.2.2.2.2.2.2.2.2.2.2.2.2
  obtain ⟨hN, hP⟩ := pl_P hd (w := 8) hl
  refine Ct_of jmX6_waste [some (.ref 0), some (.int (nI l))] (Nat.le_of_ble_eq_true rfl) rfl ?_
  show J X RX6 cX6_waste 2 _ (some .int) _ 0 _ _ _
  refine J_iload_1 dX6_waste_0 ?_
  refine J_iconst (v := nI 2) dX6_waste_1 (by decide) ?_
  refine J_cS2i dX6_waste_2 jmX6_isBelow ms_X6_60 (Nat.le_of_ble_eq_true rfl) (by decide) (c_below hl (by decide)) ?_
  refine J_if_eq (tgt := 30) dX6_waste_5 (by decide) (fun c => absurd c (by decide)) (fun _ => ?_)
  refine J_aload_0 dX6_waste_8 ?_
  refine J_iload_1 dX6_waste_9 ?_
  refine J_iconst (v := -1) dX6_waste_10 (by decide) ?_
  refine J_cV2 dX6_waste_11 jmX6_gather mv_X6_190 h0 rfl (Nat.le_of_ble_eq_true rfl) (by decide) (c_gather p hl wN8) (fun r h' q => ?_)
  obtain ⟨rfl, p2, ⟨g, ps, ag⟩, o2⟩ := q
  have hsp := ps.1
  have hf := c_spFrames (X := X) ps (fun j hj => by rw [ag j hj]; exact spV_of hP j hj)
  rw [frk_agr _ 0 (fun j hj => ag j (by omega))] at hf
  obtain ⟨k0, ⟨fc, hfc, hfc0⟩, hca, hcut, hrest⟩ := id p2
  have hC := hcut l hl
  have hc := hC.1
  have hsh := c_shown (X := X) hC
  rw [sh_congr (fun j hj => hrest.2.2.2.2.2.2.2.2.1 l j hl hj) (dn D l) 0 (by omega)] at hsh
  refine J_cV0i dX6_waste_14 jmX5_frames mv_X6_211 hsp rfl (Nat.le_of_ble_eq_true rfl) (by decide) (hf) ?_
  refine J_aload_0 dX6_waste_17 ?_
  refine J_get dX6_waste_18 fl_X6_11 k0 rfl ?_
  refine J_iload_1 dX6_waste_21 ?_
  refine J_aald dX6_waste_22 hfc ⟨_, rfl⟩ rfl (by omega) (by omega) (hfc0 l hl) ?_
  refine J_cV0i dX6_waste_23 jmX1_shownFrames mv_X6_214 hc rfl (Nat.le_of_ble_eq_true rfl) (by decide) (hsh) ?_
  refine J_isub dX6_waste_26 ?_
  refine J_goto (tgt := 32) dX6_waste_27 (by decide) ?_
  exact J_iret dX6_waste_32 rfl (⟨rfl, p2, o2.wide (by omega) (by omega)⟩)
def sTotal (D : DS) (l w : Nat) : Int32 := if w = 0 then nI (frk (plG D l 8) 0 (plN D l 8)) else if w = 1 then nI (bg (de D l) (dn D l)) else nI (lkS D (plG D l 8) 0 (plN D l 8))
theorem c_total_bad {l w : Int32} (hb : ¬ ((∃ j, j < 2 ∧ l = nI j) ∧ ∃ u, u < 3 ∧ w = nI u)) : CtI X mX6_total 4 [.ref 0, .int l, .int w] h (-2) := by
  refine Ct_of jmX6_total [some (.ref 0), some (.int l), some (.int w)] (Nat.le_of_ble_eq_true rfl) rfl ?_
  show J X RX6 cX6_total 3 _ (some .int) _ 0 _ _ _
  rcases ix_cases l 2 (by decide) with ⟨j, hj, rfl⟩ | hl
  · have hw : w.toInt < 0 ∨ 2 < w.toInt := by
      rcases ix_cases w 3 (by decide) with ⟨u, hu, rfl⟩ | q
      · exact absurd ⟨⟨j, hj, rfl⟩, u, hu, rfl⟩ hb
      · rcases Int.lt_or_le w.toInt 0 with z | z
        · exact Or.inl z
        · right
          refine Int.lt_of_not_ge fun y => q ⟨Int32.le_iff_toInt_le.mpr (by rw [Int32.toInt_zero]; exact z), Int32.lt_iff_toInt_lt.mpr ?_⟩
          rw [show (nI 3).toInt = 3 from by decide]
          omega
    refine J_iload_1 dX6_total_0 ?_
    refine J_iconst (v := nI 2) dX6_total_1 (by decide) ?_
    refine J_cS2i dX6_total_2 jmX6_isBelow ms_X6_60 (Nat.le_of_ble_eq_true rfl) (by decide) (c_below hj (by decide)) ?_
    refine J_if_ne (tgt := 11) dX6_total_5 (by decide) (fun _ => ?_) (fun c => absurd c (by decide))
    refine J_iload_2 dX6_total_11 ?_
    refine J_tabOut (tgt := 71) dX6_total_12 hw (by decide) ?_
    refine J_bipush (v := -2) dX6_total_71 (by decide) ?_
    exact J_iret dX6_total_73 rfl (⟨rfl, rfl⟩)
  · refine J_iload_1 dX6_total_0 ?_
    refine J_iconst (v := nI 2) dX6_total_1 (by decide) ?_
    refine J_cS2i dX6_total_2 jmX6_isBelow ms_X6_60 (Nat.le_of_ble_eq_true rfl) (by decide) (c_nbelow hl) ?_
    refine J_if_ne (tgt := 11) dX6_total_5 (by decide) (fun c => absurd c (by decide)) (fun _ => ?_)
    refine J_bipush (v := -2) dX6_total_8 (by decide) ?_
    exact J_iret dX6_total_10 rfl (⟨rfl, rfl⟩)
theorem c_total_ok (p : dkAt h D ca xs) {l w : Nat} (hl : l < 2) (hw : w < 3) : Ct X mX6_total 4 [.ref 0, .int (nI l), .int (nI w)] h (fun r h' => r = some (.int (sTotal D l w)) ∧ dkAt h' D ca xs ∧ offB h h' 0 51) := by
  obtain ⟨h0, ⟨fc, hfc, hfc0⟩, hca, hcut, hrest⟩ := id p
  have hd : dok D := p.2.2.2.2.2.2.2.2.2.2.2.2.2
  obtain ⟨hN, hP⟩ := pl_P hd (w := 8) hl
  refine Ct_of jmX6_total [some (.ref 0), some (.int (nI l)), some (.int (nI w))] (Nat.le_of_ble_eq_true rfl) rfl ?_
  show J X RX6 cX6_total 3 _ (some .int) _ 0 _ _ _
  rcases (show w = 0 ∨ w = 1 ∨ w = 2 by omega) with rfl | rfl | rfl
  · refine J_iload_1 dX6_total_0 ?_
    refine J_iconst (v := nI 2) dX6_total_1 (by decide) ?_
    refine J_cS2i dX6_total_2 jmX6_isBelow ms_X6_60 (Nat.le_of_ble_eq_true rfl) (by decide) (c_below hl (by decide)) ?_
    refine J_if_ne (tgt := 11) dX6_total_5 (by decide) (fun _ => ?_) (fun c => absurd c (by decide))
    refine J_iload_2 dX6_total_11 ?_
    refine J_tabN (tgt := 40) dX6_total_12 (by decide) (by decide) rfl (by decide) ?_
    refine J_aload_0 dX6_total_40 ?_
    refine J_iload_1 dX6_total_41 ?_
    refine J_iconst (v := -1) dX6_total_42 (by decide) ?_
    refine J_cV2 dX6_total_43 jmX6_gather mv_X6_190 h0 rfl (Nat.le_of_ble_eq_true rfl) (by decide) (c_gather p hl wN8) (fun r h' q => ?_)
    obtain ⟨rfl, p2, ⟨g, ps, ag⟩, o2⟩ := q
    have hsp := ps.1
    have hf := c_spFrames (X := X) ps (fun j hj => by rw [ag j hj]; exact spV_of hP j hj)
    rw [frk_agr _ 0 (fun j hj => ag j (by omega))] at hf
    refine J_cV0i dX6_total_46 jmX5_frames mv_X6_211 hsp rfl (Nat.le_of_ble_eq_true rfl) (by decide) (hf) ?_
    exact J_iret dX6_total_49 rfl (⟨rfl, p2, o2.wide (by omega) (by omega)⟩)
  · have hC := hcut l hl
    have hc := hC.1
    have hb := c_frames (X := X) hC
    rw [bg_congr (fun j hj => hrest.2.2.2.2.2.2.2.2.1 l j hl hj)] at hb
    refine J_iload_1 dX6_total_0 ?_
    refine J_iconst (v := nI 2) dX6_total_1 (by decide) ?_
    refine J_cS2i dX6_total_2 jmX6_isBelow ms_X6_60 (Nat.le_of_ble_eq_true rfl) (by decide) (c_below hl (by decide)) ?_
    refine J_if_ne (tgt := 11) dX6_total_5 (by decide) (fun _ => ?_) (fun c => absurd c (by decide))
    refine J_iload_2 dX6_total_11 ?_
    refine J_tabN (tgt := 50) dX6_total_12 (by decide) (by decide) rfl (by decide) ?_
    refine J_aload_0 dX6_total_50 ?_
    refine J_get dX6_total_51 fl_X6_11 h0 rfl ?_
    refine J_iload_1 dX6_total_54 ?_
    refine J_aald dX6_total_55 hfc ⟨_, rfl⟩ rfl (by omega) (by omega) (hfc0 l hl) ?_
    refine J_cV0i dX6_total_56 jmX1_frames mv_X6_217 hc rfl (Nat.le_of_ble_eq_true rfl) (by decide) (hb) ?_
    exact J_iret dX6_total_59 rfl (⟨rfl, p, offB.rf⟩)
  · refine J_iload_1 dX6_total_0 ?_
    refine J_iconst (v := nI 2) dX6_total_1 (by decide) ?_
    refine J_cS2i dX6_total_2 jmX6_isBelow ms_X6_60 (Nat.le_of_ble_eq_true rfl) (by decide) (c_below hl (by decide)) ?_
    refine J_if_ne (tgt := 11) dX6_total_5 (by decide) (fun _ => ?_) (fun c => absurd c (by decide))
    refine J_iload_2 dX6_total_11 ?_
    refine J_tabN (tgt := 60) dX6_total_12 (by decide) (by decide) rfl (by decide) ?_
    refine J_aload_0 dX6_total_60 ?_
    refine J_aload_0 dX6_total_61 ?_
    refine J_iload_1 dX6_total_62 ?_
    refine J_iconst (v := -1) dX6_total_63 (by decide) ?_
    refine J_cV2 dX6_total_64 jmX6_gather mv_X6_190 h0 rfl (Nat.le_of_ble_eq_true rfl) (by decide) (c_gather p hl wN8) (fun r h' q => ?_)
    obtain ⟨rfl, p2, ⟨g, ps, ag⟩, o2⟩ := q
    have hf := c_lackAll (X := X) p2 ps (fun j hj => by rw [ag j hj]; exact spV_of hP j hj)
    rw [lkS_agr _ 0 (fun j hj => ag j (by omega))] at hf
    refine J_cV1i dX6_total_67 jmX6_lackingOfAll mv_X6_218 p2.1 rfl (Nat.le_of_ble_eq_true rfl) (by decide) (hf) ?_
    exact J_iret dX6_total_70 rfl (⟨rfl, p2, o2.wide (by omega) (by omega)⟩)
/-- SAVING: from EDIT e on, k of them; b the best so far, f its frames -/
def svs (D : DS) (e : Nat) (s : Option (Nat × Nat)) : Option (Nat × Nat) := match s with
  | none => some (e, frk (plG D 1 e) 0 (plN D 1 e))
  | some (b, f) => if frk (plG D 1 e) 0 (plN D 1 e) < f then some (e, frk (plG D 1 e) 0 (plN D 1 e)) else some (b, f)
def svk (D : DS) (e k : Nat) (s : Option (Nat × Nat)) : Option (Nat × Nat) := match k with
  | 0 => s
  | k + 1 => svk D (e + 1) k (svs D e s)
def svA (s : Option (Nat × Nat)) : Int32 := match s with
  | none => -1
  | some q => nI q.1
def svF (s : Option (Nat × Nat)) : Int32 := match s with
  | none => -1
  | some q => nI q.2
def sSav (D : DS) (w : Nat) : Int32 := if w = 0 then svA (svk D 0 (dn D 1) none) else svF (svk D 0 (dn D 1) none)
theorem frk_le {g : Nat → Nat → Nat} {n : Nat} (h : ∀ j, j < n → spP (g j)) : ∀ (k i : Nat), i + k ≤ n → frk g i k ≤ 2 ^ 19 * k := by
  intro k
  induction k with
  | zero => intro i _; exact Nat.le_refl _
  | succ k ih =>
    intro i hi
    have h1 := ih (i + 1) (by omega)
    have h2 := (h i (by omega)).2.2.1
    rw [frk]
    omega
theorem fr_pl_le (hd : dok D) {l w : Nat} (hl : l < 2) : frk (plG D l w) 0 (plN D l w) < 2 ^ 23 := by
  obtain ⟨hN, hP⟩ := pl_P hd (w := w) hl
  have := frk_le hP (plN D l w) 0 (by omega)
  omega
theorem l_sav {h : HF} {w : Nat} (hw : w < 2) {fin : Option (Nat × Nat)} : ∀ (k e : Nat) (h1 : HF) (s : Option (Nat × Nat)) (o5 : Option Value), e + k = dn D 1 → dkAt h1 D ca xs → (∀ q, s = some q → q.1 < 8 ∧ q.2 < 2 ^ 23) → svk D e k s = fin → offB h h1 0 51 →
    J X RX6 cX6_saving 6 3 (some .int) (fun r h' => r = some (.int (if w = 0 then svA fin else svF fin)) ∧ dkAt h' D ca xs ∧ offB h h' 0 51) 18 [some (.ref 0), some (.int (nI w)), some (.int (svA s)), some (.int (svF s)), some (.int (nI e)), o5] [] h1 := by
  intro k
  induction k with
  | zero =>
    intro e h1 s o5 he p hs hf ho
    obtain ⟨h0, ⟨fc, hfc, hfc0⟩, hca, hcut, hrest⟩ := id p
    have hc := (hcut 1 (by decide)).1
    have hn8 := (hcut 1 (by decide)).2.2.2
    have hf : s = fin := hf
    subst hf
    refine J_iload_4 dX6_saving_18 ?_
    refine J_aload_0 dX6_saving_20 ?_
    refine J_get dX6_saving_21 fl_X6_11 h0 rfl ?_
    refine J_iconst (v := nI 1) dX6_saving_24 (by decide) ?_
    refine J_aald dX6_saving_25 hfc ⟨_, rfl⟩ rfl (by omega) (by omega) (hfc0 1 (by decide)) ?_
    refine J_get dX6_saving_26 fl_X6_76 hc rfl ?_
    refine J_icmp_geN (tgt := 67) dX6_saving_29 (by decide) (by omega) (by omega) (fun _ => ?_) (fun c => absurd c (by omega))
    refine J_iload_1 dX6_saving_67 ?_
    first | refine J_if_neB (tgt := 75) dX6_saving_68 (by decide) (fun c68 => ?_) (fun c68 => ?_) | refine J_if_neN (tgt := 75) dX6_saving_68 (by decide) (by omega) (fun c68 => ?_) (fun c68 => ?_) | refine J_if_ne (tgt := 75) dX6_saving_68 (by decide) (fun c68 => ?_) (fun c68 => ?_)
    · refine J_iload_3 dX6_saving_75 ?_
      exact J_iret dX6_saving_76 rfl (⟨by first | rw [if_pos c68] | rw [if_neg (Nat.ne_of_gt c68)], p, ho⟩)
    · refine J_iload_2 dX6_saving_71 ?_
      refine J_goto (tgt := 76) dX6_saving_72 (by decide) ?_
      exact J_iret dX6_saving_76 rfl (⟨by first | rw [if_pos c68] | rw [if_neg (Nat.ne_of_gt c68)], p, ho⟩)
  | succ k ih =>
    intro e h1 s o5 he p hs hf ho
    obtain ⟨h0, ⟨fc, hfc, hfc0⟩, hca, hcut, hrest⟩ := id p
    have hc := (hcut 1 (by decide)).1
    have hn8 := (hcut 1 (by decide)).2.2.2
    have hd : dok D := p.2.2.2.2.2.2.2.2.2.2.2.2.2
    obtain ⟨hN, hP⟩ := pl_P hd (w := e) (l := 1) (by decide)
    have hlt := fr_pl_le hd (w := e) (l := 1) (by decide)
    rw [svk] at hf
    cases s with
    | none =>
      refine J_iload_4 dX6_saving_18 ?_
      refine J_aload_0 dX6_saving_20 ?_
      refine J_get dX6_saving_21 fl_X6_11 h0 rfl ?_
      refine J_iconst (v := nI 1) dX6_saving_24 (by decide) ?_
      refine J_aald dX6_saving_25 hfc ⟨_, rfl⟩ rfl (by omega) (by omega) (hfc0 1 (by decide)) ?_
      refine J_get dX6_saving_26 fl_X6_76 hc rfl ?_
      refine J_icmp_geN (tgt := 67) dX6_saving_29 (by decide) (by omega) (by omega) (fun c => absurd c (by omega)) (fun _ => ?_)
      refine J_aload_0 dX6_saving_32 ?_
      refine J_iconst (v := nI 1) dX6_saving_33 (by decide) ?_
      refine J_iload_4 dX6_saving_34 ?_
      refine J_cV2 dX6_saving_36 jmX6_gather mv_X6_190 h0 rfl (Nat.le_of_ble_eq_true rfl) (by decide) (c_gather p (l := 1) (by decide) (wNe (by omega))) (fun r h' q => ?_)
      obtain ⟨rfl, p2, ⟨g, ps, ag⟩, o2⟩ := q
      have hsp := ps.1
      have hfr := c_spFrames (X := X) ps (fun j hj => by rw [ag j hj]; exact spV_of hP j hj)
      rw [frk_agr _ 0 (fun j hj => ag j (by omega))] at hfr
      refine J_cV0i dX6_saving_39 jmX5_frames mv_X6_211 hsp rfl (Nat.le_of_ble_eq_true rfl) (by decide) (hfr) ?_
      refine J_istore_5 dX6_saving_42 (Nat.le_of_ble_eq_true rfl) rfl ?_
      refine J_iload_2 dX6_saving_44 ?_
      refine J_iconst (v := -1) dX6_saving_45 (by decide) ?_
      refine J_icmp_eq (tgt := 55) dX6_saving_46 (by decide) (fun _ => ?_) (fun c => absurd (rfl : svA none = -1) c)
      refine J_iload_4 dX6_saving_55 ?_
      refine J_istore_2 dX6_saving_57 (Nat.le_of_ble_eq_true rfl) rfl ?_
      refine J_iload_5 dX6_saving_58 ?_
      refine J_istore_3 dX6_saving_60 (Nat.le_of_ble_eq_true rfl) rfl ?_
      first | refine J_inc_4 dX6_saving_61 (Nat.le_of_ble_eq_true rfl) rfl ?_ | refine J_iinc_4 dX6_saving_61 rfl (Nat.le_of_ble_eq_true rfl) rfl ?_
      refine J_goto (tgt := 18) dX6_saving_64 (by decide) ?_
      exact ih (e + 1) _ (some (e, _)) _ (by omega) p2 (fun q hq => by cases hq; exact ⟨by omega, hlt⟩) hf (ho.tr (o2.wide (by omega) (by omega)))
    | some q =>
      obtain ⟨b, f⟩ := q
      obtain ⟨hb8, hf23⟩ := hs (b, f) rfl
      dsimp only at hb8 hf23
      by_cases hq : frk (plG D 1 e) 0 (plN D 1 e) < f
      · rw [show svs D e (some (b, f)) = some (e, frk (plG D 1 e) 0 (plN D 1 e)) from if_pos hq] at hf
        refine J_iload_4 dX6_saving_18 ?_
        refine J_aload_0 dX6_saving_20 ?_
        refine J_get dX6_saving_21 fl_X6_11 h0 rfl ?_
        refine J_iconst (v := nI 1) dX6_saving_24 (by decide) ?_
        refine J_aald dX6_saving_25 hfc ⟨_, rfl⟩ rfl (by omega) (by omega) (hfc0 1 (by decide)) ?_
        refine J_get dX6_saving_26 fl_X6_76 hc rfl ?_
        refine J_icmp_geN (tgt := 67) dX6_saving_29 (by decide) (by omega) (by omega) (fun c => absurd c (by omega)) (fun _ => ?_)
        refine J_aload_0 dX6_saving_32 ?_
        refine J_iconst (v := nI 1) dX6_saving_33 (by decide) ?_
        refine J_iload_4 dX6_saving_34 ?_
        refine J_cV2 dX6_saving_36 jmX6_gather mv_X6_190 h0 rfl (Nat.le_of_ble_eq_true rfl) (by decide) (c_gather p (l := 1) (by decide) (wNe (by omega))) (fun r h' q => ?_)
        obtain ⟨rfl, p2, ⟨g, ps, ag⟩, o2⟩ := q
        have hsp := ps.1
        have hfr := c_spFrames (X := X) ps (fun j hj => by rw [ag j hj]; exact spV_of hP j hj)
        rw [frk_agr _ 0 (fun j hj => ag j (by omega))] at hfr
        refine J_cV0i dX6_saving_39 jmX5_frames mv_X6_211 hsp rfl (Nat.le_of_ble_eq_true rfl) (by decide) (hfr) ?_
        refine J_istore_5 dX6_saving_42 (Nat.le_of_ble_eq_true rfl) rfl ?_
        refine J_iload_2 dX6_saving_44 ?_
        refine J_iconst (v := -1) dX6_saving_45 (by decide) ?_
        refine J_icmp_eq (tgt := 55) dX6_saving_46 (by decide) (fun c => absurd c (oN_ne (n := b) (by omega))) (fun _ => ?_)
        refine J_iload_5 dX6_saving_49 ?_
        refine J_iload_3 dX6_saving_51 ?_
        refine J_icmp_geN (b := f) (tgt := 61) dX6_saving_52 (by decide) (by omega) (by omega) (fun c => absurd c (by omega)) (fun _ => ?_)
        refine J_iload_4 dX6_saving_55 ?_
        refine J_istore_2 dX6_saving_57 (Nat.le_of_ble_eq_true rfl) rfl ?_
        refine J_iload_5 dX6_saving_58 ?_
        refine J_istore_3 dX6_saving_60 (Nat.le_of_ble_eq_true rfl) rfl ?_
        first | refine J_inc_4 dX6_saving_61 (Nat.le_of_ble_eq_true rfl) rfl ?_ | refine J_iinc_4 dX6_saving_61 rfl (Nat.le_of_ble_eq_true rfl) rfl ?_
        refine J_goto (tgt := 18) dX6_saving_64 (by decide) ?_
        exact ih (e + 1) _ (some (e, _)) _ (by omega) p2 (fun q hq => by cases hq; exact ⟨by omega, hlt⟩) hf (ho.tr (o2.wide (by omega) (by omega)))
      · rw [show svs D e (some (b, f)) = some (b, f) from if_neg hq] at hf
        refine J_iload_4 dX6_saving_18 ?_
        refine J_aload_0 dX6_saving_20 ?_
        refine J_get dX6_saving_21 fl_X6_11 h0 rfl ?_
        refine J_iconst (v := nI 1) dX6_saving_24 (by decide) ?_
        refine J_aald dX6_saving_25 hfc ⟨_, rfl⟩ rfl (by omega) (by omega) (hfc0 1 (by decide)) ?_
        refine J_get dX6_saving_26 fl_X6_76 hc rfl ?_
        refine J_icmp_geN (tgt := 67) dX6_saving_29 (by decide) (by omega) (by omega) (fun c => absurd c (by omega)) (fun _ => ?_)
        refine J_aload_0 dX6_saving_32 ?_
        refine J_iconst (v := nI 1) dX6_saving_33 (by decide) ?_
        refine J_iload_4 dX6_saving_34 ?_
        refine J_cV2 dX6_saving_36 jmX6_gather mv_X6_190 h0 rfl (Nat.le_of_ble_eq_true rfl) (by decide) (c_gather p (l := 1) (by decide) (wNe (by omega))) (fun r h' q => ?_)
        obtain ⟨rfl, p2, ⟨g, ps, ag⟩, o2⟩ := q
        have hsp := ps.1
        have hfr := c_spFrames (X := X) ps (fun j hj => by rw [ag j hj]; exact spV_of hP j hj)
        rw [frk_agr _ 0 (fun j hj => ag j (by omega))] at hfr
        refine J_cV0i dX6_saving_39 jmX5_frames mv_X6_211 hsp rfl (Nat.le_of_ble_eq_true rfl) (by decide) (hfr) ?_
        refine J_istore_5 dX6_saving_42 (Nat.le_of_ble_eq_true rfl) rfl ?_
        refine J_iload_2 dX6_saving_44 ?_
        refine J_iconst (v := -1) dX6_saving_45 (by decide) ?_
        refine J_icmp_eq (tgt := 55) dX6_saving_46 (by decide) (fun c => absurd c (oN_ne (n := b) (by omega))) (fun _ => ?_)
        refine J_iload_5 dX6_saving_49 ?_
        refine J_iload_3 dX6_saving_51 ?_
        refine J_icmp_geN (b := f) (tgt := 61) dX6_saving_52 (by decide) (by omega) (by omega) (fun _ => ?_) (fun c => absurd c (by omega))
        first | refine J_inc_4 dX6_saving_61 (Nat.le_of_ble_eq_true rfl) rfl ?_ | refine J_iinc_4 dX6_saving_61 rfl (Nat.le_of_ble_eq_true rfl) rfl ?_
        refine J_goto (tgt := 18) dX6_saving_64 (by decide) ?_
        exact ih (e + 1) _ (some (b, f)) _ (by omega) p2 (fun q hq => by cases hq; exact ⟨hb8, hf23⟩) hf (ho.tr (o2.wide (by omega) (by omega)))
theorem c_sav_bad {w : Int32} (hb : ¬ (0 ≤ w ∧ w < nI 2)) : CtI X mX6_saving 3 [.ref 0, .int w] h (-2) := by
  refine Ct_of jmX6_saving [some (.ref 0), some (.int w), none, none, none, none] (Nat.le_of_ble_eq_true rfl) rfl ?_
  show J X RX6 cX6_saving 6 _ (some .int) _ 0 _ _ _
  refine J_iload_1 dX6_saving_0 ?_
  refine J_iconst (v := nI 2) dX6_saving_1 (by decide) ?_
  refine J_cS2i dX6_saving_2 jmX6_isBelow ms_X6_60 (Nat.le_of_ble_eq_true rfl) (by decide) (c_nbelow hb) ?_
  refine J_if_ne (tgt := 11) dX6_saving_5 (by decide) (fun c => absurd c (by decide)) (fun _ => ?_)
  refine J_bipush (v := -2) dX6_saving_8 (by decide) ?_
  exact J_iret dX6_saving_10 rfl (⟨rfl, rfl⟩)
theorem c_sav_ok (p : dkAt h D ca xs) {w : Nat} (hw : w < 2) : Ct X mX6_saving 3 [.ref 0, .int (nI w)] h (fun r h' => r = some (.int (sSav D w)) ∧ dkAt h' D ca xs ∧ offB h h' 0 51) := by
  have e := l_sav (X := X) hw (dn D 1) 0 h none none (by omega) p (fun q hq => by cases hq) rfl offB.rf
  refine Ct_of jmX6_saving [some (.ref 0), some (.int (nI w)), none, none, none, none] (Nat.le_of_ble_eq_true rfl) rfl ?_
  show J X RX6 cX6_saving 6 _ (some .int) _ 0 _ _ _
  refine J_iload_1 dX6_saving_0 ?_
  refine J_iconst (v := nI 2) dX6_saving_1 (by decide) ?_
  refine J_cS2i dX6_saving_2 jmX6_isBelow ms_X6_60 (Nat.le_of_ble_eq_true rfl) (by decide) (c_below hw (by decide)) ?_
  refine J_if_ne (tgt := 11) dX6_saving_5 (by decide) (fun _ => ?_) (fun c => absurd c (by decide))
  refine J_iconst (v := -1) dX6_saving_11 (by decide) ?_
  refine J_istore_2 dX6_saving_12 (Nat.le_of_ble_eq_true rfl) rfl ?_
  refine J_iconst (v := -1) dX6_saving_13 (by decide) ?_
  refine J_istore_3 dX6_saving_14 (Nat.le_of_ble_eq_true rfl) rfl ?_
  refine J_iconst (v := nI 0) dX6_saving_15 (by decide) ?_
  refine J_istore_4 dX6_saving_16 (Nat.le_of_ble_eq_true rfl) rfl ?_
  exact e
end
