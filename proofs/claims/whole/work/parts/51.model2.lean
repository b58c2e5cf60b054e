section
variable {X : Cx} {h : HF} {D : DS} {tb : Int32} {F : Nat → Nat → Int32}
theorem m_edit_bad1 {l r i m p q : Int32} (hl : ¬ (0 ≤ l ∧ l < nI 2)) : CtI X mX7_edit 3 [.ref 51, .int l, .int r, .int i, .int m, .int p, .int q] h (-2) := by
  refine Ct_of jmX7_edit [some (.ref 51), some (.int l), some (.int r), some (.int i), some (.int m), some (.int p), some (.int q)] (Nat.le_of_ble_eq_true rfl) rfl ?_
  show J X RX7 cX7_edit 7 _ (some .int) _ 0 _ _ _
  refine J_iload_1 dX7_edit_0 ?_
  refine J_cS1i dX7_edit_1 jmX7_isList ms_X7_82 (Nat.le_of_ble_eq_true rfl) (by decide) (m_listF hl) ?_
  refine J_if_eq (tgt := 23) dX7_edit_4 (by decide) (fun _ => ?_) (fun c => absurd (by decide) c)
  refine J_bipush (v := -2) dX7_edit_23 (by decide) ?_
  exact J_iret dX7_edit_25 rfl (⟨rfl, rfl⟩)
theorem m_edit_of (p : mdAt h D tb F) {l : Nat} {r i m q u : Int32} (hl : l < 2) {Q : Option Value → HF → Prop} (ct : Ct X mX7_adds 2 [.ref 51, .int (nI l), .int r, .int i, .int m, .int q, .int u] h Q) (hQ : ∀ r h', Q r h' → ∃ v, r = some (.int v)) : Ct X mX7_edit 3 [.ref 51, .int (nI l), .int r, .int i, .int m, .int q, .int u] h Q := by
  have h0 := p.1
  refine Ct_of jmX7_edit [some (.ref 51), some (.int (nI l)), some (.int r), some (.int i), some (.int m), some (.int q), some (.int u)] (Nat.le_of_ble_eq_true rfl) rfl ?_
  show J X RX7 cX7_edit 7 _ (some .int) _ 0 _ _ _
  refine J_iload_1 dX7_edit_0 ?_
  refine J_cS1i dX7_edit_1 jmX7_isList ms_X7_82 (Nat.le_of_ble_eq_true rfl) (by decide) (m_listT hl) ?_
  refine J_if_eq (tgt := 23) dX7_edit_4 (by decide) (fun c => absurd c (by decide)) (fun _ => ?_)
  refine J_aload_0 dX7_edit_7 ?_
  refine J_iload_1 dX7_edit_8 ?_
  refine J_iload_2 dX7_edit_9 ?_
  refine J_iload_3 dX7_edit_10 ?_
  refine J_iload_4 dX7_edit_11 ?_
  refine J_iload_5 dX7_edit_13 ?_
  refine J_iload_6 dX7_edit_15 ?_
  refine J_cV6 dX7_edit_17 jmX7_adds mv_X7_85 h0 rfl (Nat.le_of_ble_eq_true rfl) (by decide) (ct) (fun r h' q => ?_)
  obtain ⟨v, rfl⟩ := hQ r h' q
  refine J_goto (tgt := 25) dX7_edit_20 (by decide) ?_
  exact J_iret dX7_edit_25 rfl (q)
theorem md_many (p : mdAt h D tb F) {l n : Nat} {fm : Nat → Int32} (hl : l < 2) (hn : n ≤ dn D l) (hm0 : ∀ l, l < 2 → fm l = nI (dn D l)) : mdAt (hu h 52 (oA 0 2 (upd fm l (nI n)))) (dSN D l n) tb F := by
  obtain ⟨h0, ⟨fm', hm, -⟩, ⟨e0, e1, e2, e3, e4⟩, hF, ⟨fs, hfs, hfs0⟩, ⟨fl, hfl, hfl0⟩, hsh, hscr, k1, k2, k3, k4, k5, k6, k7, k8⟩ := p
  have o : ∀ {c : AE} (b : Nat), b ≠ 52 → hu h 52 c b = h b := fun b hb => hu_ne hb
  have m : ∀ {a : Nat} {c c' : AE}, hAt h a c → a ≠ 52 → hAt (hu h 52 c') a c := fun q r => hAt_ne q r
  have dnl : ∀ j, dn (dSN D l n) j = if j = l then n else dn D j := fun j => rfl
  have dnle : ∀ j, dn (dSN D l n) j ≤ dn D j := fun j => by rw [dnl j]; split; (rename_i z; rw [z]; exact hn); exact Nat.le_refl _
  refine ⟨m h0 (by omega), ⟨_, hAt_s hm.1, fun j hj => ?_⟩, ⟨m e0 (by omega), m e1 (by omega), m e2 (by omega), m e3 (by omega), m e4 (by omega)⟩, fun j e k hj he hk => hF j e k hj (Nat.lt_of_lt_of_le he (dnle j)) hk, ⟨fs, m hfs (by omega), hfs0⟩, ⟨fl, m hfl (by omega), hfl0⟩, mSh_o hsh (fun b l u => o b (by omega)), mScr_o hscr (fun b hb => o b (by omega)), k1, k2, k3, k4, k5, fun j hj => Nat.le_trans (dnle j) (k6 j hj), fun j e hj he => k7 j e hj (Nat.lt_of_lt_of_le he (dnle j)), k8⟩
  rw [dnl j]
  unfold upd
  split
  · rfl
  · exact hm0 j hj
theorem m_back_bad {l : Int32} (hb : ¬ (0 ≤ l ∧ l < nI 2)) : CtI X mX7_back 2 [.ref 51, .int l] h (-2) := by
  refine Ct_of jmX7_back [some (.ref 51), some (.int l)] (Nat.le_of_ble_eq_true rfl) rfl ?_
  show J X RX7 cX7_back 2 _ (some .int) _ 0 _ _ _
  refine J_iload_1 dX7_back_0 ?_
  refine J_cS1i dX7_back_1 jmX7_isList ms_X7_82 (Nat.le_of_ble_eq_true rfl) (by decide) (m_listF hb) ?_
  refine J_if_ne (tgt := 10) dX7_back_4 (by decide) (fun c => absurd c (by decide)) (fun _ => ?_)
  refine J_bipush (v := -2) dX7_back_7 (by decide) ?_
  exact J_iret dX7_back_9 rfl (⟨rfl, rfl⟩)
theorem m_back_not (p : mdAt h D tb F) {l : Nat} (hl : l < 2) (hn : dn D l = 0) : CtI X mX7_back 2 [.ref 51, .int (nI l)] h (-3) := by
  obtain ⟨h0, ⟨fm, hm, hm0⟩, -⟩ := id p
  refine Ct_of jmX7_back [some (.ref 51), some (.int (nI l))] (Nat.le_of_ble_eq_true rfl) rfl ?_
  show J X RX7 cX7_back 2 _ (some .int) _ 0 _ _ _
  refine J_iload_1 dX7_back_0 ?_
  refine J_cS1i dX7_back_1 jmX7_isList ms_X7_82 (Nat.le_of_ble_eq_true rfl) (by decide) (m_listT hl) ?_
  refine J_if_ne (tgt := 10) dX7_back_4 (by decide) (fun _ => ?_) (fun c => absurd c (by decide))
  refine J_aload_0 dX7_back_10 ?_
  refine J_get dX7_back_11 fl_X7_7 h0 rfl ?_
  refine J_iload_1 dX7_back_14 ?_
  refine J_iald dX7_back_15 hm rfl (by omega) (by omega) ?_
  refine J_topi (b := nI 0) ((hm0 l hl).trans (by rw [hn])) ?_
  refine J_if_ne (tgt := 22) dX7_back_16 (by decide) (fun c => absurd c (fun z => z rfl)) (fun _ => ?_)
  refine J_bipush (v := -3) dX7_back_19 (by decide) ?_
  exact J_iret dX7_back_21 rfl (⟨rfl, rfl⟩)
theorem m_back_ok (p : mdAt h D tb F) {l : Nat} (hl : l < 2) (hn : 0 < dn D l) : Ct X mX7_back 2 [.ref 51, .int (nI l)] h (fun r h' => r = some (.int (nI (dn D l - 1))) ∧ moAt h' (dSN D l (dn D l - 1)) ∧ offB h h' 51 71) := by
  obtain ⟨h0, ⟨fm, hm, hm0⟩, -⟩ := id p
  have h8 := p.2.2.2.2.2.2.2.2.2.2.2.2.2.1 l hl
  have el := hm0 l hl
  have pf := md_many p hl (Nat.sub_le (dn D l) 1) hm0
  refine Ct_of jmX7_back [some (.ref 51), some (.int (nI l))] (Nat.le_of_ble_eq_true rfl) rfl ?_
  show J X RX7 cX7_back 2 _ (some .int) _ 0 _ _ _
  refine J_iload_1 dX7_back_0 ?_
  refine J_cS1i dX7_back_1 jmX7_isList ms_X7_82 (Nat.le_of_ble_eq_true rfl) (by decide) (m_listT hl) ?_
  refine J_if_ne (tgt := 10) dX7_back_4 (by decide) (fun _ => ?_) (fun c => absurd c (by decide))
  refine J_aload_0 dX7_back_10 ?_
  refine J_get dX7_back_11 fl_X7_7 h0 rfl ?_
  refine J_iload_1 dX7_back_14 ?_
  refine J_iald dX7_back_15 hm rfl (by omega) (by omega) ?_
  refine J_topi (b := nI (dn D l)) (el) ?_
  refine J_if_neN (tgt := 22) dX7_back_16 (by decide) (by omega) (fun _ => ?_) (fun c => absurd c (by omega))
  refine J_aload_0 dX7_back_22 ?_
  refine J_get dX7_back_23 fl_X7_7 h0 rfl ?_
  refine J_iload_1 dX7_back_26 ?_
  refine J_dup2 dX7_back_27 rfl rfl ?_
  refine J_iald dX7_back_28 hm rfl (by omega) (by omega) ?_
  refine J_topi (b := nI (dn D l)) (el) ?_
  refine J_iconst (v := nI 1) dX7_back_29 (by decide) ?_
  first | refine J_isubN dX7_back_30 (by omega) ?_ | refine J_isub dX7_back_30 ?_
  refine J_iast dX7_back_31 hm rfl (by omega) (by omega) ?_
  refine J_aload_0 dX7_back_32 ?_
  refine J_get dX7_back_33 fl_X7_7 pf.1 rfl ?_
  refine J_iload_1 dX7_back_36 ?_
  refine J_iald dX7_back_37 (hAt_s hm.1) rfl (by omega) (by omega) ?_
  refine J_topi (b := nI (dn D l - 1)) (if_pos rfl) ?_
  exact J_iret dX7_back_38 rfl (⟨rfl, ⟨_, _, pf⟩, offB.rf.hu (by omega) (by omega)⟩)
theorem m_isEditT (p : mdAt h D tb F) {l e : Nat} (hl : l < 2) (he : e < dn D l) : CtI X mX7_isEdit 2 [.ref 51, .int (nI l), .int (nI e)] h 1 := by
  obtain ⟨h0, ⟨fm, hm, hm0⟩, -⟩ := id p
  have h8 := p.2.2.2.2.2.2.2.2.2.2.2.2.2.1 l hl
  refine Ct_of jmX7_isEdit [some (.ref 51), some (.int (nI l)), some (.int (nI e))] (Nat.le_of_ble_eq_true rfl) rfl ?_
  show J X RX7 cX7_isEdit 3 _ (some .boolean) _ 0 _ _ _
  refine J_iload_1 dX7_isEdit_0 ?_
  refine J_cS1i dX7_isEdit_1 jmX7_isList ms_X7_82 (Nat.le_of_ble_eq_true rfl) (by decide) (m_listT hl) ?_
  refine J_if_eq (tgt := 27) dX7_isEdit_4 (by decide) (fun c => absurd c (by decide)) (fun _ => ?_)
  refine J_iload_2 dX7_isEdit_7 ?_
  refine J_iconst (v := nI 0) dX7_isEdit_8 (by decide) ?_
  refine J_aload_0 dX7_isEdit_9 ?_
  refine J_get dX7_isEdit_10 fl_X7_7 h0 rfl ?_
  refine J_iload_1 dX7_isEdit_13 ?_
  refine J_iald dX7_isEdit_14 hm rfl (by omega) (by omega) ?_
  refine J_topi (b := nI (dn D l)) (hm0 l hl) ?_
  refine J_iconst (v := nI 1) dX7_isEdit_15 (by decide) ?_
  first | refine J_isubN dX7_isEdit_16 (by omega) ?_ | refine J_isub dX7_isEdit_16 ?_
  refine J_cS3i dX7_isEdit_17 jmX7_in ms_X7_69 (Nat.le_of_ble_eq_true rfl) (by decide) (m_inT (by omega) (by omega) (by omega)) ?_
  refine J_if_eq (tgt := 27) dX7_isEdit_20 (by decide) (fun c => absurd c (by decide)) (fun _ => ?_)
  refine J_iconst (v := nI 1) dX7_isEdit_23 (by decide) ?_
  refine J_goto (tgt := 28) dX7_isEdit_24 (by decide) ?_
  exact J_zret dX7_isEdit_28 rfl (by first | exact Or.inl rfl | exact Or.inr rfl | exact bI_01 _) (⟨rfl, rfl⟩)
theorem m_isEditF (p : mdAt h D tb F) {u v : Int32} (hu : ¬ ∃ l e, l < 2 ∧ e < dn D l ∧ u = nI l ∧ v = nI e) : CtI X mX7_isEdit 2 [.ref 51, .int u, .int v] h 0 := by
  obtain ⟨h0, ⟨fm, hm, hm0⟩, -⟩ := id p
  refine Ct_of jmX7_isEdit [some (.ref 51), some (.int u), some (.int v)] (Nat.le_of_ble_eq_true rfl) rfl ?_
  show J X RX7 cX7_isEdit 3 _ (some .boolean) _ 0 _ _ _
  rcases ix_cases u 2 (by decide) with ⟨l, hl, rfl⟩ | hb
  · have h8 := p.2.2.2.2.2.2.2.2.2.2.2.2.2.1 l hl
    have hv : ¬ (nI 0 ≤ v ∧ v ≤ nI (dn D l) - nI 1) := fun z => by
      by_cases z0 : dn D l = 0
      · rw [z0, show nI 0 - nI 1 = (-1 : Int32) from by decide] at z
        have q1 := Int32.le_iff_toInt_le.mp z.1
        have q2 := Int32.le_iff_toInt_le.mp z.2
        rw [show (nI 0).toInt = 0 from by decide] at q1
        rw [show (-1 : Int32).toInt = -1 from by decide] at q2
        omega
      · rw [pk_sub (by omega)] at z
        have z := (in_lt (n := dn D l - 1) (by omega)).mp z
        rw [show dn D l - 1 + 1 = dn D l by omega] at z
        rcases ix_cases v (dn D l) (by omega) with ⟨e, he, rfl⟩ | q
        · exact hu ⟨l, e, hl, he, rfl, rfl⟩
        · exact q z
    refine J_iload_1 dX7_isEdit_0 ?_
    refine J_cS1i dX7_isEdit_1 jmX7_isList ms_X7_82 (Nat.le_of_ble_eq_true rfl) (by decide) (m_listT hl) ?_
    refine J_if_eq (tgt := 27) dX7_isEdit_4 (by decide) (fun c => absurd c (by decide)) (fun _ => ?_)
    refine J_iload_2 dX7_isEdit_7 ?_
    refine J_iconst (v := nI 0) dX7_isEdit_8 (by decide) ?_
    refine J_aload_0 dX7_isEdit_9 ?_
    refine J_get dX7_isEdit_10 fl_X7_7 h0 rfl ?_
    refine J_iload_1 dX7_isEdit_13 ?_
    refine J_iald dX7_isEdit_14 hm rfl (by omega) (by omega) ?_
    refine J_topi (b := nI (dn D l)) (hm0 l hl) ?_
    refine J_iconst (v := nI 1) dX7_isEdit_15 (by decide) ?_
    refine J_isub dX7_isEdit_16 ?_
    refine J_cS3i dX7_isEdit_17 jmX7_in ms_X7_69 (Nat.le_of_ble_eq_true rfl) (by decide) (m_inF hv) ?_
    refine J_if_eq (tgt := 27) dX7_isEdit_20 (by decide) (fun _ => ?_) (fun c => absurd (by decide) c)
    refine J_iconst (v := nI 0) dX7_isEdit_27 (by decide) ?_
    exact J_zret dX7_isEdit_28 rfl (by first | exact Or.inl rfl | exact Or.inr rfl | exact bI_01 _) (⟨rfl, rfl⟩)
  · refine J_iload_1 dX7_isEdit_0 ?_
    refine J_cS1i dX7_isEdit_1 jmX7_isList ms_X7_82 (Nat.le_of_ble_eq_true rfl) (by decide) (m_listF hb) ?_
    refine J_if_eq (tgt := 27) dX7_isEdit_4 (by decide) (fun _ => ?_) (fun c => absurd (by decide) c)
    refine J_iconst (v := nI 0) dX7_isEdit_27 (by decide) ?_
    exact J_zret dX7_isEdit_28 rfl (by first | exact Or.inl rfl | exact Or.inr rfl | exact bI_01 _) (⟨rfl, rfl⟩)
theorem m_trim_bad (p : mdAt h D tb F) {l e w v : Int32} (hb : ¬ (∃ j k u, j < 2 ∧ k < dn D j ∧ u < 4 ∧ l = nI j ∧ e = nI k ∧ w = nI u ∧ ptI u v)) : CtI X mX7_trim 3 [.ref 51, .int l, .int e, .int w, .int v] h (-2) := by
  have h0 := p.1
  refine Ct_of jmX7_trim [some (.ref 51), some (.int l), some (.int e), some (.int w), some (.int v), none, none] (Nat.le_of_ble_eq_true rfl) rfl ?_
  show J X RX7 cX7_trim 7 _ (some .int) _ 0 _ _ _
  by_cases hE : ∃ j k, j < 2 ∧ k < dn D j ∧ l = nI j ∧ e = nI k
  · obtain ⟨j, k, hj, hk, rfl, rfl⟩ := hE
    have hm : CtI X mX7_isWell 1 [.int w, .int v] h 0 := by
      rcases ix_cases w 4 (by decide) with ⟨u, hu, rfl⟩ | q
      · have z := m_well (X := X) (h := h) (v := v) hu
        rw [if_neg (show ¬ (jt1 u ≤ v ∧ v ≤ jt2 u) from fun z => hb ⟨j, k, u, hj, hk, hu, rfl, rfl, rfl, z⟩)] at z
        exact z
      · exact m_wellNo q
    refine J_aload_0 dX7_trim_0 ?_
    refine J_iload_1 dX7_trim_1 ?_
    refine J_iload_2 dX7_trim_2 ?_
    refine J_cV2i dX7_trim_3 jmX7_isEdit mv_X7_89 h0 rfl (Nat.le_of_ble_eq_true rfl) (by decide) (m_isEditT p hj hk) ?_
    refine J_if_eq (tgt := 18) dX7_trim_6 (by decide) (fun c => absurd c (by decide)) (fun _ => ?_)
    refine J_iload_3 dX7_trim_9 ?_
    refine J_iload_4 dX7_trim_10 ?_
    refine J_cS2i dX7_trim_12 jmX7_isWell ms_X7_78 (Nat.le_of_ble_eq_true rfl) (by decide) (hm) ?_
    refine J_if_ne (tgt := 21) dX7_trim_15 (by decide) (fun c => absurd c (by decide)) (fun _ => ?_)
    refine J_bipush (v := -2) dX7_trim_18 (by decide) ?_
    exact J_iret dX7_trim_20 rfl (⟨rfl, rfl⟩)
  · refine J_aload_0 dX7_trim_0 ?_
    refine J_iload_1 dX7_trim_1 ?_
    refine J_iload_2 dX7_trim_2 ?_
    refine J_cV2i dX7_trim_3 jmX7_isEdit mv_X7_89 h0 rfl (Nat.le_of_ble_eq_true rfl) (by decide) (m_isEditF p hE) ?_
    refine J_if_eq (tgt := 18) dX7_trim_6 (by decide) (fun _ => ?_) (fun c => absurd (by decide) c)
    refine J_bipush (v := -2) dX7_trim_18 (by decide) ?_
    exact J_iret dX7_trim_20 rfl (⟨rfl, rfl⟩)
theorem upd_self {f : Nat → Int32} {i : Nat} : upd f i (f i) = f := by
  funext j
  unfold upd
  split
  · rename_i z; rw [z]
  · rfl
theorem md_trim (p : mdAt h D tb F) {l e k v : Nat} (hl : l < 2) (he : e < dn D l) (oky : edOk (kset (de D l e) k v)) : ∀ h', (∀ b, (b < 53 ∨ 58 ≤ b) → h' b = h b) → (∀ q, q < 5 → hAt h' (53 + q) (oA 0 16 (if q = k then upd (F q) (8 * l + e) (nI v) else F q))) → mdAt h' (dSE D l e (kset (de D l e) k v)) tb (fun q => if q = k then upd (F q) (8 * l + e) (nI v) else F q) := by
  intro h' o hq
  obtain ⟨h0, ⟨fm, hm, hm0⟩, -, hF, ⟨fs, hfs, hfs0⟩, ⟨fl, hfl, hfl0⟩, hsh, hscr, k1, k2, k3, k4, k5, k6, k7, k8⟩ := p
  have m : ∀ {a : Nat} {c : AE}, hAt h a c → (a < 53 ∨ 58 ≤ a) → hAt h' a c := fun q r => ⟨q.1, (o _ r).trans q.2⟩
  have del : ∀ j, de (dSE D l e (kset (de D l e) k v)) j = if j = l then eset (de D l) e (kset (de D l e) k v) else de D j := fun j => rfl
  refine ⟨m h0 (by omega), ⟨fm, m hm (by omega), hm0⟩, ⟨hq 0 (by decide), hq 1 (by decide), hq 2 (by decide), hq 3 (by decide), hq 4 (by decide)⟩, fun j i q hj hi hq5 => ?_, ⟨fs, m hfs (by omega), hfs0⟩, ⟨fl, m hfl (by omega), hfl0⟩, mSh_o hsh (fun b l u => o b (by omega)), mScr_o hscr (fun b hb => o b (by omega)), k1, k2, k3, k4, k5, k6, fun j i hj hi => ?_, k8⟩
  · rw [del j]
    have hi' : i < dn D j := hi
    have b1 := k6 j hj
    have b2 := k6 l hl
    dsimp only
    by_cases z : j = l
    · subst z
      rw [if_pos rfl]
      by_cases y : i = e
      · subst y
        rw [eset_s]
        unfold kset upd
        split
        · exact if_pos rfl
        · exact hF j i q hj hi' hq5
      · rw [eset_n y]
        have e1 := hF j i q hj hi' hq5
        split
        · unfold upd
          rw [if_neg (by omega)]
          exact e1
        · exact e1
    · rw [if_neg z]
      have e1 := hF j i q hj hi' hq5
      split
      · unfold upd
        rw [if_neg (by omega)]
        exact e1
      · exact e1
  · rw [del j]
    have hi' : i < dn D j := hi
    by_cases z : j = l
    · subst z
      rw [if_pos rfl]
      by_cases y : i = e
      · subst y; rw [eset_s]; exact oky
      · rw [eset_n y]; exact k7 j i hj hi'
    · rw [if_neg z]; exact k7 j i hj hi'
theorem m_trim_ok (p : mdAt h D tb F) {l e w v : Nat} (hl : l < 2) (he : e < dn D l) (hw : w < 4) (hv : ptI w (nI v)) (oky : edOk (kset (de D l e) (w + 1) v)) : Ct X mX7_trim 3 [.ref 51, .int (nI l), .int (nI e), .int (nI w), .int (nI v)] h (fun r h' => r = some (.int (nI (de D l e (w + 1)))) ∧ moAt h' (dSE D l e (kset (de D l e) (w + 1) v)) ∧ offB h h' 51 71) := by
  obtain ⟨h0, -, ⟨a0, a1, a2, a3, a4⟩, hF, -⟩ := id p
  have h8 := p.2.2.2.2.2.2.2.2.2.2.2.2.2.1 l hl
  have hm := m_well (X := X) (h := h) (v := nI v) hw
  rw [if_pos (show jt1 w ≤ nI v ∧ nI v ≤ jt2 w from hv)] at hm
  have f1 := hF l e 1 hl he (by decide)
  have f2 := hF l e 2 hl he (by decide)
  have f3 := hF l e 3 hl he (by decide)
  have f4 := hF l e 4 hl he (by decide)
  have ha : ∀ (g1 g2 g3 g4 : Nat → Int32) (b : Nat), (b < 53 ∨ 58 ≤ b) → hu (hu (hu (hu h 54 (oA 0 16 g1)) 55 (oA 0 16 g2)) 56 (oA 0 16 g3)) 57 (oA 0 16 g4) b = h b := by
    intro g1 g2 g3 g4 b hb
    rw [hu_ne (by omega), hu_ne (by omega), hu_ne (by omega), hu_ne (by omega)]
  have hb : ∀ (g1 g2 g3 g4 : Nat → Int32), (g1 = if 1 = w + 1 then upd (F 1) (8 * l + e) (nI v) else F 1) → (g2 = if 2 = w + 1 then upd (F 2) (8 * l + e) (nI v) else F 2) → (g3 = if 3 = w + 1 then upd (F 3) (8 * l + e) (nI v) else F 3) → (g4 = if 4 = w + 1 then upd (F 4) (8 * l + e) (nI v) else F 4) → ∀ q, q < 5 → hAt (hu (hu (hu (hu h 54 (oA 0 16 g1)) 55 (oA 0 16 g2)) 56 (oA 0 16 g3)) 57 (oA 0 16 g4)) (53 + q) (oA 0 16 (if q = w + 1 then upd (F q) (8 * l + e) (nI v) else F q)) := by
    intro g1 g2 g3 g4 q1 q2 q3 q4 q hq
    rcases (show q = 0 ∨ q = 1 ∨ q = 2 ∨ q = 3 ∨ q = 4 by omega) with rfl | rfl | rfl | rfl | rfl
    · rw [if_neg (by omega)]
      exact hAt_ne (hAt_ne (hAt_ne (hAt_ne a0 (by omega)) (by omega)) (by omega)) (by omega)
    · rw [← q1]
      exact hAt_ne (hAt_ne (hAt_ne (hAt_s a1.1) (by omega)) (by omega)) (by omega)
    · rw [← q2]
      exact hAt_ne (hAt_ne (hAt_s a2.1) (by omega)) (by omega)
    · rw [← q3]
      exact hAt_ne (hAt_s a3.1) (by omega)
    · rw [← q4]
      exact hAt_s a4.1
  have ho : ∀ (g1 g2 g3 g4 : Nat → Int32), offB h (hu (hu (hu (hu h 54 (oA 0 16 g1)) 55 (oA 0 16 g2)) 56 (oA 0 16 g3)) 57 (oA 0 16 g4)) 51 71 := fun g1 g2 g3 g4 => (((offB.rf.hu (by omega) (by omega)).hu (by omega) (by omega)).hu (by omega) (by omega)).hu (by omega) (by omega)
  refine Ct_of jmX7_trim [some (.ref 51), some (.int (nI l)), some (.int (nI e)), some (.int (nI w)), some (.int (nI v)), none, none] (Nat.le_of_ble_eq_true rfl) rfl ?_
  show J X RX7 cX7_trim 7 _ (some .int) _ 0 _ _ _
  rcases (show w = 0 ∨ w = 1 ∨ w = 2 ∨ w = 3 by omega) with rfl | rfl | rfl | rfl
  · refine J_aload_0 dX7_trim_0 ?_
    refine J_iload_1 dX7_trim_1 ?_
    refine J_iload_2 dX7_trim_2 ?_
    refine J_cV2i dX7_trim_3 jmX7_isEdit mv_X7_89 h0 rfl (Nat.le_of_ble_eq_true rfl) (by decide) (m_isEditT p hl he) ?_
    refine J_if_eq (tgt := 18) dX7_trim_6 (by decide) (fun c => absurd c (by decide)) (fun _ => ?_)
    refine J_iload_3 dX7_trim_9 ?_
    refine J_iload_4 dX7_trim_10 ?_
    refine J_cS2i dX7_trim_12 jmX7_isWell ms_X7_78 (Nat.le_of_ble_eq_true rfl) (by decide) (hm) ?_
    refine J_if_ne (tgt := 21) dX7_trim_15 (by decide) (fun _ => ?_) (fun c => absurd c (by decide))
    refine J_bipush (v := nI 8) dX7_trim_21 (by decide) ?_
    refine J_iload_1 dX7_trim_23 ?_
    first | refine J_imulN dX7_trim_24 ?_ | refine J_imul dX7_trim_24 ?_
    refine J_iload_2 dX7_trim_25 ?_
    first | refine J_iaddN dX7_trim_26 ?_ | refine J_iadd dX7_trim_26 ?_
    refine J_istore_5 dX7_trim_27 (Nat.le_of_ble_eq_true rfl) rfl ?_
    refine J_iload_3 dX7_trim_29 ?_
    refine J_if_neN (tgt := 43) dX7_trim_30 (by decide) (by omega) (fun c => absurd c (by omega)) (fun _ => ?_)
    refine J_aload_0 dX7_trim_33 ?_
    refine J_get dX7_trim_34 fl_X7_16 h0 rfl ?_
    refine J_iload_5 dX7_trim_37 ?_
    refine J_iald dX7_trim_39 a1 rfl (by omega) (by omega) ?_
    refine J_topi (b := nI (de D l e 1)) (f1) ?_
    refine J_goto (tgt := 80) dX7_trim_40 (by decide) ?_
    refine J_istore_6 dX7_trim_80 (Nat.le_of_ble_eq_true rfl) rfl ?_
    refine J_aload_0 dX7_trim_82 ?_
    refine J_get dX7_trim_83 fl_X7_16 h0 rfl ?_
    refine J_iload_5 dX7_trim_86 ?_
    refine J_iload_3 dX7_trim_88 ?_
    refine J_if_neN (tgt := 97) dX7_trim_89 (by decide) (by omega) (fun c => absurd c (by omega)) (fun _ => ?_)
    refine J_iload_4 dX7_trim_92 ?_
    refine J_goto (tgt := 104) dX7_trim_94 (by decide) ?_
    refine J_iast dX7_trim_104 a1 rfl (by omega) (by omega) ?_
    refine J_aload_0 dX7_trim_105 ?_
    refine J_get dX7_trim_106 fl_X7_19 (hAt_ne h0 (by omega)) rfl ?_
    refine J_iload_5 dX7_trim_109 ?_
    refine J_iload_3 dX7_trim_111 ?_
    refine J_iconst (v := nI 1) dX7_trim_112 (by decide) ?_
    refine J_icmp_neN (tgt := 121) dX7_trim_113 (by decide) (by omega) (by omega) (fun _ => ?_) (fun c => absurd c (by omega))
    refine J_aload_0 dX7_trim_121 ?_
    refine J_get dX7_trim_122 fl_X7_19 (hAt_ne h0 (by omega)) rfl ?_
    refine J_iload_5 dX7_trim_125 ?_
    refine J_iald dX7_trim_127 (hAt_ne a2 (by omega)) rfl (by omega) (by omega) ?_
    refine J_iast dX7_trim_128 (hAt_ne a2 (by omega)) rfl (by omega) (by omega) ?_
    refine J_aload_0 dX7_trim_129 ?_
    refine J_get dX7_trim_130 fl_X7_22 (hAt_ne (hAt_ne h0 (by omega)) (by omega)) rfl ?_
    refine J_iload_5 dX7_trim_133 ?_
    refine J_iload_3 dX7_trim_135 ?_
    refine J_iconst (v := nI 2) dX7_trim_136 (by decide) ?_
    refine J_icmp_neN (tgt := 145) dX7_trim_137 (by decide) (by omega) (by omega) (fun _ => ?_) (fun c => absurd c (by omega))
    refine J_aload_0 dX7_trim_145 ?_
    refine J_get dX7_trim_146 fl_X7_22 (hAt_ne (hAt_ne h0 (by omega)) (by omega)) rfl ?_
    refine J_iload_5 dX7_trim_149 ?_
    refine J_iald dX7_trim_151 (hAt_ne (hAt_ne a3 (by omega)) (by omega)) rfl (by omega) (by omega) ?_
    refine J_iast dX7_trim_152 (hAt_ne (hAt_ne a3 (by omega)) (by omega)) rfl (by omega) (by omega) ?_
    refine J_aload_0 dX7_trim_153 ?_
    refine J_get dX7_trim_154 fl_X7_25 (hAt_ne (hAt_ne (hAt_ne h0 (by omega)) (by omega)) (by omega)) rfl ?_
    refine J_iload_5 dX7_trim_157 ?_
    refine J_iload_3 dX7_trim_159 ?_
    refine J_iconst (v := nI 3) dX7_trim_160 (by decide) ?_
    refine J_icmp_neN (tgt := 169) dX7_trim_161 (by decide) (by omega) (by omega) (fun _ => ?_) (fun c => absurd c (by omega))
    refine J_aload_0 dX7_trim_169 ?_
    refine J_get dX7_trim_170 fl_X7_25 (hAt_ne (hAt_ne (hAt_ne h0 (by omega)) (by omega)) (by omega)) rfl ?_
    refine J_iload_5 dX7_trim_173 ?_
    refine J_iald dX7_trim_175 (hAt_ne (hAt_ne (hAt_ne a4 (by omega)) (by omega)) (by omega)) rfl (by omega) (by omega) ?_
    refine J_iast dX7_trim_176 (hAt_ne (hAt_ne (hAt_ne a4 (by omega)) (by omega)) (by omega)) rfl (by omega) (by omega) ?_
    refine J_iload_6 dX7_trim_177 ?_
    exact J_iret dX7_trim_179 rfl (⟨rfl, ⟨_, _, md_trim p hl he oky _ (ha _ _ _ _) (hb _ _ _ _ rfl upd_self upd_self upd_self)⟩, ho _ _ _ _⟩)
  · refine J_aload_0 dX7_trim_0 ?_
    refine J_iload_1 dX7_trim_1 ?_
    refine J_iload_2 dX7_trim_2 ?_
    refine J_cV2i dX7_trim_3 jmX7_isEdit mv_X7_89 h0 rfl (Nat.le_of_ble_eq_true rfl) (by decide) (m_isEditT p hl he) ?_
    refine J_if_eq (tgt := 18) dX7_trim_6 (by decide) (fun c => absurd c (by decide)) (fun _ => ?_)
    refine J_iload_3 dX7_trim_9 ?_
    refine J_iload_4 dX7_trim_10 ?_
    refine J_cS2i dX7_trim_12 jmX7_isWell ms_X7_78 (Nat.le_of_ble_eq_true rfl) (by decide) (hm) ?_
    refine J_if_ne (tgt := 21) dX7_trim_15 (by decide) (fun _ => ?_) (fun c => absurd c (by decide))
    refine J_bipush (v := nI 8) dX7_trim_21 (by decide) ?_
    refine J_iload_1 dX7_trim_23 ?_
    first | refine J_imulN dX7_trim_24 ?_ | refine J_imul dX7_trim_24 ?_
    refine J_iload_2 dX7_trim_25 ?_
    first | refine J_iaddN dX7_trim_26 ?_ | refine J_iadd dX7_trim_26 ?_
    refine J_istore_5 dX7_trim_27 (Nat.le_of_ble_eq_true rfl) rfl ?_
    refine J_iload_3 dX7_trim_29 ?_
    refine J_if_neN (tgt := 43) dX7_trim_30 (by decide) (by omega) (fun _ => ?_) (fun c => absurd c (by omega))
    refine J_iload_3 dX7_trim_43 ?_
    refine J_iconst (v := nI 1) dX7_trim_44 (by decide) ?_
    refine J_icmp_neN (tgt := 58) dX7_trim_45 (by decide) (by omega) (by omega) (fun c => absurd c (by omega)) (fun _ => ?_)
    refine J_aload_0 dX7_trim_48 ?_
    refine J_get dX7_trim_49 fl_X7_19 h0 rfl ?_
    refine J_iload_5 dX7_trim_52 ?_
    refine J_iald dX7_trim_54 a2 rfl (by omega) (by omega) ?_
    refine J_topi (b := nI (de D l e 2)) (f2) ?_
    refine J_goto (tgt := 80) dX7_trim_55 (by decide) ?_
    refine J_istore_6 dX7_trim_80 (Nat.le_of_ble_eq_true rfl) rfl ?_
    refine J_aload_0 dX7_trim_82 ?_
    refine J_get dX7_trim_83 fl_X7_16 h0 rfl ?_
    refine J_iload_5 dX7_trim_86 ?_
    refine J_iload_3 dX7_trim_88 ?_
    refine J_if_neN (tgt := 97) dX7_trim_89 (by decide) (by omega) (fun _ => ?_) (fun c => absurd c (by omega))
    refine J_aload_0 dX7_trim_97 ?_
    refine J_get dX7_trim_98 fl_X7_16 h0 rfl ?_
    refine J_iload_5 dX7_trim_101 ?_
    refine J_iald dX7_trim_103 a1 rfl (by omega) (by omega) ?_
    refine J_iast dX7_trim_104 a1 rfl (by omega) (by omega) ?_
    refine J_aload_0 dX7_trim_105 ?_
    refine J_get dX7_trim_106 fl_X7_19 (hAt_ne h0 (by omega)) rfl ?_
    refine J_iload_5 dX7_trim_109 ?_
    refine J_iload_3 dX7_trim_111 ?_
    refine J_iconst (v := nI 1) dX7_trim_112 (by decide) ?_
    refine J_icmp_neN (tgt := 121) dX7_trim_113 (by decide) (by omega) (by omega) (fun c => absurd c (by omega)) (fun _ => ?_)
    refine J_iload_4 dX7_trim_116 ?_
    refine J_goto (tgt := 128) dX7_trim_118 (by decide) ?_
    refine J_iast dX7_trim_128 (hAt_ne a2 (by omega)) rfl (by omega) (by omega) ?_
    refine J_aload_0 dX7_trim_129 ?_
    refine J_get dX7_trim_130 fl_X7_22 (hAt_ne (hAt_ne h0 (by omega)) (by omega)) rfl ?_
    refine J_iload_5 dX7_trim_133 ?_
    refine J_iload_3 dX7_trim_135 ?_
    refine J_iconst (v := nI 2) dX7_trim_136 (by decide) ?_
    refine J_icmp_neN (tgt := 145) dX7_trim_137 (by decide) (by omega) (by omega) (fun _ => ?_) (fun c => absurd c (by omega))
    refine J_aload_0 dX7_trim_145 ?_
    refine J_get dX7_trim_146 fl_X7_22 (hAt_ne (hAt_ne h0 (by omega)) (by omega)) rfl ?_
    refine J_iload_5 dX7_trim_149 ?_
    refine J_iald dX7_trim_151 (hAt_ne (hAt_ne a3 (by omega)) (by omega)) rfl (by omega) (by omega) ?_
    refine J_iast dX7_trim_152 (hAt_ne (hAt_ne a3 (by omega)) (by omega)) rfl (by omega) (by omega) ?_
    refine J_aload_0 dX7_trim_153 ?_
    refine J_get dX7_trim_154 fl_X7_25 (hAt_ne (hAt_ne (hAt_ne h0 (by omega)) (by omega)) (by omega)) rfl ?_
    refine J_iload_5 dX7_trim_157 ?_
    refine J_iload_3 dX7_trim_159 ?_
    refine J_iconst (v := nI 3) dX7_trim_160 (by decide) ?_
    refine J_icmp_neN (tgt := 169) dX7_trim_161 (by decide) (by omega) (by omega) (fun _ => ?_) (fun c => absurd c (by omega))
    refine J_aload_0 dX7_trim_169 ?_
    refine J_get dX7_trim_170 fl_X7_25 (hAt_ne (hAt_ne (hAt_ne h0 (by omega)) (by omega)) (by omega)) rfl ?_
    refine J_iload_5 dX7_trim_173 ?_
    refine J_iald dX7_trim_175 (hAt_ne (hAt_ne (hAt_ne a4 (by omega)) (by omega)) (by omega)) rfl (by omega) (by omega) ?_
    refine J_iast dX7_trim_176 (hAt_ne (hAt_ne (hAt_ne a4 (by omega)) (by omega)) (by omega)) rfl (by omega) (by omega) ?_
    refine J_iload_6 dX7_trim_177 ?_
    exact J_iret dX7_trim_179 rfl (⟨rfl, ⟨_, _, md_trim p hl he oky _ (ha _ _ _ _) (hb _ _ _ _ upd_self rfl upd_self upd_self)⟩, ho _ _ _ _⟩)
  · refine J_aload_0 dX7_trim_0 ?_
    refine J_iload_1 dX7_trim_1 ?_
    refine J_iload_2 dX7_trim_2 ?_
    refine J_cV2i dX7_trim_3 jmX7_isEdit mv_X7_89 h0 rfl (Nat.le_of_ble_eq_true rfl) (by decide) (m_isEditT p hl he) ?_
    refine J_if_eq (tgt := 18) dX7_trim_6 (by decide) (fun c => absurd c (by decide)) (fun _ => ?_)
    refine J_iload_3 dX7_trim_9 ?_
    refine J_iload_4 dX7_trim_10 ?_
    refine J_cS2i dX7_trim_12 jmX7_isWell ms_X7_78 (Nat.le_of_ble_eq_true rfl) (by decide) (hm) ?_
    refine J_if_ne (tgt := 21) dX7_trim_15 (by decide) (fun _ => ?_) (fun c => absurd c (by decide))
    refine J_bipush (v := nI 8) dX7_trim_21 (by decide) ?_
    refine J_iload_1 dX7_trim_23 ?_
    first | refine J_imulN dX7_trim_24 ?_ | refine J_imul dX7_trim_24 ?_
    refine J_iload_2 dX7_trim_25 ?_
    first | refine J_iaddN dX7_trim_26 ?_ | refine J_iadd dX7_trim_26 ?_
    refine J_istore_5 dX7_trim_27 (Nat.le_of_ble_eq_true rfl) rfl ?_
    refine J_iload_3 dX7_trim_29 ?_
    refine J_if_neN (tgt := 43) dX7_trim_30 (by decide) (by omega) (fun _ => ?_) (fun c => absurd c (by omega))
    refine J_iload_3 dX7_trim_43 ?_
    refine J_iconst (v := nI 1) dX7_trim_44 (by decide) ?_
    refine J_icmp_neN (tgt := 58) dX7_trim_45 (by decide) (by omega) (by omega) (fun _ => ?_) (fun c => absurd c (by omega))
    refine J_iload_3 dX7_trim_58 ?_
    refine J_iconst (v := nI 2) dX7_trim_59 (by decide) ?_
    refine J_icmp_neN (tgt := 73) dX7_trim_60 (by decide) (by omega) (by omega) (fun c => absurd c (by omega)) (fun _ => ?_)
    refine J_aload_0 dX7_trim_63 ?_
    refine J_get dX7_trim_64 fl_X7_22 h0 rfl ?_
    refine J_iload_5 dX7_trim_67 ?_
    refine J_iald dX7_trim_69 a3 rfl (by omega) (by omega) ?_
    refine J_topi (b := nI (de D l e 3)) (f3) ?_
    refine J_goto (tgt := 80) dX7_trim_70 (by decide) ?_
    refine J_istore_6 dX7_trim_80 (Nat.le_of_ble_eq_true rfl) rfl ?_
    refine J_aload_0 dX7_trim_82 ?_
    refine J_get dX7_trim_83 fl_X7_16 h0 rfl ?_
    refine J_iload_5 dX7_trim_86 ?_
    refine J_iload_3 dX7_trim_88 ?_
    refine J_if_neN (tgt := 97) dX7_trim_89 (by decide) (by omega) (fun _ => ?_) (fun c => absurd c (by omega))
    refine J_aload_0 dX7_trim_97 ?_
    refine J_get dX7_trim_98 fl_X7_16 h0 rfl ?_
    refine J_iload_5 dX7_trim_101 ?_
    refine J_iald dX7_trim_103 a1 rfl (by omega) (by omega) ?_
    refine J_iast dX7_trim_104 a1 rfl (by omega) (by omega) ?_
    refine J_aload_0 dX7_trim_105 ?_
    refine J_get dX7_trim_106 fl_X7_19 (hAt_ne h0 (by omega)) rfl ?_
    refine J_iload_5 dX7_trim_109 ?_
    refine J_iload_3 dX7_trim_111 ?_
    refine J_iconst (v := nI 1) dX7_trim_112 (by decide) ?_
    refine J_icmp_neN (tgt := 121) dX7_trim_113 (by decide) (by omega) (by omega) (fun _ => ?_) (fun c => absurd c (by omega))
    refine J_aload_0 dX7_trim_121 ?_
    refine J_get dX7_trim_122 fl_X7_19 (hAt_ne h0 (by omega)) rfl ?_
    refine J_iload_5 dX7_trim_125 ?_
    refine J_iald dX7_trim_127 (hAt_ne a2 (by omega)) rfl (by omega) (by omega) ?_
    refine J_iast dX7_trim_128 (hAt_ne a2 (by omega)) rfl (by omega) (by omega) ?_
    refine J_aload_0 dX7_trim_129 ?_
    refine J_get dX7_trim_130 fl_X7_22 (hAt_ne (hAt_ne h0 (by omega)) (by omega)) rfl ?_
    refine J_iload_5 dX7_trim_133 ?_
    refine J_iload_3 dX7_trim_135 ?_
    refine J_iconst (v := nI 2) dX7_trim_136 (by decide) ?_
    refine J_icmp_neN (tgt := 145) dX7_trim_137 (by decide) (by omega) (by omega) (fun c => absurd c (by omega)) (fun _ => ?_)
    refine J_iload_4 dX7_trim_140 ?_
    refine J_goto (tgt := 152) dX7_trim_142 (by decide) ?_
    refine J_iast dX7_trim_152 (hAt_ne (hAt_ne a3 (by omega)) (by omega)) rfl (by omega) (by omega) ?_
    refine J_aload_0 dX7_trim_153 ?_
    refine J_get dX7_trim_154 fl_X7_25 (hAt_ne (hAt_ne (hAt_ne h0 (by omega)) (by omega)) (by omega)) rfl ?_
    refine J_iload_5 dX7_trim_157 ?_
    refine J_iload_3 dX7_trim_159 ?_
    refine J_iconst (v := nI 3) dX7_trim_160 (by decide) ?_
    refine J_icmp_neN (tgt := 169) dX7_trim_161 (by decide) (by omega) (by omega) (fun _ => ?_) (fun c => absurd c (by omega))
    refine J_aload_0 dX7_trim_169 ?_
    refine J_get dX7_trim_170 fl_X7_25 (hAt_ne (hAt_ne (hAt_ne h0 (by omega)) (by omega)) (by omega)) rfl ?_
    refine J_iload_5 dX7_trim_173 ?_
    refine J_iald dX7_trim_175 (hAt_ne (hAt_ne (hAt_ne a4 (by omega)) (by omega)) (by omega)) rfl (by omega) (by omega) ?_
    refine J_iast dX7_trim_176 (hAt_ne (hAt_ne (hAt_ne a4 (by omega)) (by omega)) (by omega)) rfl (by omega) (by omega) ?_
    refine J_iload_6 dX7_trim_177 ?_
    exact J_iret dX7_trim_179 rfl (⟨rfl, ⟨_, _, md_trim p hl he oky _ (ha _ _ _ _) (hb _ _ _ _ upd_self upd_self rfl upd_self)⟩, ho _ _ _ _⟩)
  · refine J_aload_0 dX7_trim_0 ?_
    refine J_iload_1 dX7_trim_1 ?_
    refine J_iload_2 dX7_trim_2 ?_
    refine J_cV2i dX7_trim_3 jmX7_isEdit mv_X7_89 h0 rfl (Nat.le_of_ble_eq_true rfl) (by decide) (m_isEditT p hl he) ?_
    refine J_if_eq (tgt := 18) dX7_trim_6 (by decide) (fun c => absurd c (by decide)) (fun _ => ?_)
    refine J_iload_3 dX7_trim_9 ?_
    refine J_iload_4 dX7_trim_10 ?_
    refine J_cS2i dX7_trim_12 jmX7_isWell ms_X7_78 (Nat.le_of_ble_eq_true rfl) (by decide) (hm) ?_
    refine J_if_ne (tgt := 21) dX7_trim_15 (by decide) (fun _ => ?_) (fun c => absurd c (by decide))
    refine J_bipush (v := nI 8) dX7_trim_21 (by decide) ?_
    refine J_iload_1 dX7_trim_23 ?_
    first | refine J_imulN dX7_trim_24 ?_ | refine J_imul dX7_trim_24 ?_
    refine J_iload_2 dX7_trim_25 ?_
    first | refine J_iaddN dX7_trim_26 ?_ | refine J_iadd dX7_trim_26 ?_
    refine J_istore_5 dX7_trim_27 (Nat.le_of_ble_eq_true rfl) rfl ?_
    refine J_iload_3 dX7_trim_29 ?_
    refine J_if_neN (tgt := 43) dX7_trim_30 (by decide) (by omega) (fun _ => ?_) (fun c => absurd c (by omega))
    refine J_iload_3 dX7_trim_43 ?_
    refine J_iconst (v := nI 1) dX7_trim_44 (by decide) ?_
    refine J_icmp_neN (tgt := 58) dX7_trim_45 (by decide) (by omega) (by omega) (fun _ => ?_) (fun c => absurd c (by omega))
    refine J_iload_3 dX7_trim_58 ?_
    refine J_iconst (v := nI 2) dX7_trim_59 (by decide) ?_
    refine J_icmp_neN (tgt := 73) dX7_trim_60 (by decide) (by omega) (by omega) (fun _ => ?_) (fun c => absurd c (by omega))
    refine J_aload_0 dX7_trim_73 ?_
    refine J_get dX7_trim_74 fl_X7_25 h0 rfl ?_
    refine J_iload_5 dX7_trim_77 ?_
    refine J_iald dX7_trim_79 a4 rfl (by omega) (by omega) ?_
    refine J_topi (b := nI (de D l e 4)) (f4) ?_
    refine J_istore_6 dX7_trim_80 (Nat.le_of_ble_eq_true rfl) rfl ?_
    refine J_aload_0 dX7_trim_82 ?_
    refine J_get dX7_trim_83 fl_X7_16 h0 rfl ?_
    refine J_iload_5 dX7_trim_86 ?_
    refine J_iload_3 dX7_trim_88 ?_
    refine J_if_neN (tgt := 97) dX7_trim_89 (by decide) (by omega) (fun _ => ?_) (fun c => absurd c (by omega))
    refine J_aload_0 dX7_trim_97 ?_
    refine J_get dX7_trim_98 fl_X7_16 h0 rfl ?_
    refine J_iload_5 dX7_trim_101 ?_
    refine J_iald dX7_trim_103 a1 rfl (by omega) (by omega) ?_
    refine J_iast dX7_trim_104 a1 rfl (by omega) (by omega) ?_
    refine J_aload_0 dX7_trim_105 ?_
    refine J_get dX7_trim_106 fl_X7_19 (hAt_ne h0 (by omega)) rfl ?_
    refine J_iload_5 dX7_trim_109 ?_
    refine J_iload_3 dX7_trim_111 ?_
    refine J_iconst (v := nI 1) dX7_trim_112 (by decide) ?_
    refine J_icmp_neN (tgt := 121) dX7_trim_113 (by decide) (by omega) (by omega) (fun _ => ?_) (fun c => absurd c (by omega))
    refine J_aload_0 dX7_trim_121 ?_
    refine J_get dX7_trim_122 fl_X7_19 (hAt_ne h0 (by omega)) rfl ?_
    refine J_iload_5 dX7_trim_125 ?_
    refine J_iald dX7_trim_127 (hAt_ne a2 (by omega)) rfl (by omega) (by omega) ?_
    refine J_iast dX7_trim_128 (hAt_ne a2 (by omega)) rfl (by omega) (by omega) ?_
    refine J_aload_0 dX7_trim_129 ?_
    refine J_get dX7_trim_130 fl_X7_22 (hAt_ne (hAt_ne h0 (by omega)) (by omega)) rfl ?_
    refine J_iload_5 dX7_trim_133 ?_
    refine J_iload_3 dX7_trim_135 ?_
    refine J_iconst (v := nI 2) dX7_trim_136 (by decide) ?_
    refine J_icmp_neN (tgt := 145) dX7_trim_137 (by decide) (by omega) (by omega) (fun _ => ?_) (fun c => absurd c (by omega))
    refine J_aload_0 dX7_trim_145 ?_
    refine J_get dX7_trim_146 fl_X7_22 (hAt_ne (hAt_ne h0 (by omega)) (by omega)) rfl ?_
    refine J_iload_5 dX7_trim_149 ?_
    refine J_iald dX7_trim_151 (hAt_ne (hAt_ne a3 (by omega)) (by omega)) rfl (by omega) (by omega) ?_
    refine J_iast dX7_trim_152 (hAt_ne (hAt_ne a3 (by omega)) (by omega)) rfl (by omega) (by omega) ?_
    refine J_aload_0 dX7_trim_153 ?_
    refine J_get dX7_trim_154 fl_X7_25 (hAt_ne (hAt_ne (hAt_ne h0 (by omega)) (by omega)) (by omega)) rfl ?_
    refine J_iload_5 dX7_trim_157 ?_
    refine J_iload_3 dX7_trim_159 ?_
    refine J_iconst (v := nI 3) dX7_trim_160 (by decide) ?_
    refine J_icmp_neN (tgt := 169) dX7_trim_161 (by decide) (by omega) (by omega) (fun c => absurd c (by omega)) (fun _ => ?_)
    refine J_iload_4 dX7_trim_164 ?_
    refine J_goto (tgt := 176) dX7_trim_166 (by decide) ?_
    refine J_iast dX7_trim_176 (hAt_ne (hAt_ne (hAt_ne a4 (by omega)) (by omega)) (by omega)) rfl (by omega) (by omega) ?_
    refine J_iload_6 dX7_trim_177 ?_
    exact J_iret dX7_trim_179 rfl (⟨rfl, ⟨_, _, md_trim p hl he oky _ (ha _ _ _ _) (hb _ _ _ _ upd_self upd_self upd_self rfl)⟩, ho _ _ _ _⟩)
end
