def sCnt (D : DS) (w : Nat) : Int32 := if w = 0 then nI (dn D 0) else if w = 1 then nI (dn D 1) else if w = 2 then nI (bg (de D 0) (dn D 0)) else if w = 3 then nI (bg (de D 1) (dn D 1)) else if w = 4 then nI (plN D 1 8) else if w = 5 then nI (kpt D 0 (dn D 1)) else if w = 6 then nI (dst D 0) else if w = 7 then nI (sAnewN D) else nI (dfi D)
/-- one number more into the digest -/
def dg (h : Int64) (v : Int32) : Int64 := 31 * h + v.toInt64
def dgl (f : Nat → Int32) (i k : Nat) (h : Int64) : Int64 := match k with
  | 0 => h
  | k + 1 => dgl f (i + 1) k (dg h (f i))
def dgT (D : DS) (f : Nat) (h : Int64) : Int64 := dgl (fun w => nI (toldN f (dst D 0) w)) 0 4 h
def dgE (D : DS) (l e k : Nat) (h : Int64) : Int64 := match k with
  | 0 => h
  | k + 1 => dgE D l (e + 1) k (dg (dg (dgl (sInfo D l e) 0 8 h) (sStill D l e 0)) (sStill D l e 1))
def dgP (D : DS) (l i k : Nat) (h : Int64) : Int64 := match k with
  | 0 => h
  | k + 1 => dgP D l (i + 1) k (dgl (sPull D l i) 0 5 h)
def dgLi (D : DS) (l : Nat) (h : Int64) : Int64 := dg (dg (dgl (sShows D l 7) 0 4 (dgl (sTotal D l) 0 3 (dg (dgP D l 0 8 h) (sWaste D l)))) (sSeen D l 1 100 0)) (sSeen D l 1 100 1)
def dgC (D : DS) (e k : Nat) (h : Int64) : Int64 := match k with
  | 0 => h
  | k + 1 => dgC D (e + 1) k (dgl (sCmp D e) 0 3 h)
def dg1 (D : DS) : Int64 := dgC D 0 (dn D 1) (dgLi D 1 (dgE D 1 0 (dn D 1) (dgLi D 0 (dgE D 0 0 (dn D 0) (dgl (sCnt D) 0 8 17)))))
def dg2 (D : DS) (h : Int64) : Int64 := dg (dg (dg (dg (dg (dg h (sGone D)) (nI (sAnewN D))) (sAnewI D 0)) (sAnewI D 25)) (sSav D 0)) (sSav D 1)
def sDig (D : DS) : Int64 := dg (dg (dg (dgT D 17982 (dgT D 1800 (dgT D 1799 (dg2 D (dg1 D))))) (sNum D 0 1 0 0)) (sNum D 0 10 0 0)) (sNum D 1 2 3 4)
section
variable {X : Cx} {h : HF} {D : DS} {ca : Nat → Nat} {xs : Nat → Nat → Nat → Nat}
theorem c_count_bad {w : Int32} (hb : ¬ (0 ≤ w ∧ w < nI 9)) : CtI X mX6_count 5 [.ref 0, .int w] h (-2) := by
  have hw : w.toInt < 0 ∨ 8 < w.toInt := by
    rcases Int.lt_or_le w.toInt 0 with z | z
    · exact Or.inl z
    · right
      refine Int.lt_of_not_ge fun y => hb ⟨Int32.le_iff_toInt_le.mpr (by rw [Int32.toInt_zero]; exact z), Int32.lt_iff_toInt_lt.mpr ?_⟩
      rw [show (nI 9).toInt = 9 from by decide]
      omega
  refine Ct_of jmX6_count [some (.ref 0), some (.int w)] (Nat.le_of_ble_eq_true rfl) rfl ?_
  show J X RX6 cX6_count 2 _ (some .int) _ 0 _ _ _
  refine J_iload_1 dX6_count_0 ?_
  refine J_tabOut (tgt := 121) dX6_count_1 hw (by decide) ?_
  refine J_bipush (v := -2) dX6_count_121 (by decide) ?_
  exact J_iret dX6_count_123 rfl (⟨rfl, rfl⟩)
theorem c_count_ok (p : dkAt h D ca xs) {w : Nat} (hw : w < 9) : Ct X mX6_count 5 [.ref 0, .int (nI w)] h (fun r h' => r = some (.int (sCnt D w)) ∧ dkAt h' D ca xs ∧ offB h h' 0 51) := by
  obtain ⟨h0, ⟨fc, hfc, hfc0⟩, hca, hcut, -, ⟨fs, hfs, hfs0⟩, hrest⟩ := id p
  have hag := hrest.2.2.2.2.2.2.1
  have hC0 := hcut 0 (by decide)
  have hC1 := hcut 1 (by decide)
  have c0 := hC0.1
  have c1 := hC1.1
  have b0 := c_frames (X := X) hC0
  have b1 := c_frames (X := X) hC1
  rw [bg_congr (fun j hj => hag 0 j (by decide) hj)] at b0
  rw [bg_congr (fun j hj => hag 1 j (by decide) hj)] at b1
  have e6 := hfs0 0 (by decide)
  refine Ct_of jmX6_count [some (.ref 0), some (.int (nI w))] (Nat.le_of_ble_eq_true rfl) rfl ?_
  show J X RX6 cX6_count 2 _ (some .int) _ 0 _ _ _
  rcases (show w = 0 ∨ w = 1 ∨ w = 2 ∨ w = 3 ∨ w = 4 ∨ w = 5 ∨ w = 6 ∨ w = 7 ∨ w = 8 by omega) with rfl | rfl | rfl | rfl | rfl | rfl | rfl | rfl | rfl
  · refine J_iload_1 dX6_count_0 ?_
    refine J_tabN (tgt := 52) dX6_count_1 (by decide) (by decide) rfl (by decide) ?_
    refine J_aload_0 dX6_count_52 ?_
    refine J_get dX6_count_53 fl_X6_11 h0 rfl ?_
    refine J_iconst (v := nI 0) dX6_count_56 (by decide) ?_
    refine J_aald dX6_count_57 hfc ⟨_, rfl⟩ rfl (by omega) (by omega) (hfc0 0 (by decide)) ?_
    refine J_get dX6_count_58 fl_X6_76 c0 rfl ?_
    exact J_iret dX6_count_61 rfl (⟨rfl, p, offB.rf⟩)
  · refine J_iload_1 dX6_count_0 ?_
    refine J_tabN (tgt := 62) dX6_count_1 (by decide) (by decide) rfl (by decide) ?_
    refine J_aload_0 dX6_count_62 ?_
    refine J_get dX6_count_63 fl_X6_11 h0 rfl ?_
    refine J_iconst (v := nI 1) dX6_count_66 (by decide) ?_
    refine J_aald dX6_count_67 hfc ⟨_, rfl⟩ rfl (by omega) (by omega) (hfc0 1 (by decide)) ?_
    refine J_get dX6_count_68 fl_X6_76 c1 rfl ?_
    exact J_iret dX6_count_71 rfl (⟨rfl, p, offB.rf⟩)
  · refine J_iload_1 dX6_count_0 ?_
    refine J_tabN (tgt := 72) dX6_count_1 (by decide) (by decide) rfl (by decide) ?_
    refine J_aload_0 dX6_count_72 ?_
    refine J_get dX6_count_73 fl_X6_11 h0 rfl ?_
    refine J_iconst (v := nI 0) dX6_count_76 (by decide) ?_
    refine J_aald dX6_count_77 hfc ⟨_, rfl⟩ rfl (by omega) (by omega) (hfc0 0 (by decide)) ?_
    refine J_cV0i dX6_count_78 jmX1_frames mv_X6_217 c0 rfl (Nat.le_of_ble_eq_true rfl) (by decide) (b0) ?_
    exact J_iret dX6_count_81 rfl (⟨rfl, p, offB.rf⟩)
  · refine J_iload_1 dX6_count_0 ?_
    refine J_tabN (tgt := 82) dX6_count_1 (by decide) (by decide) rfl (by decide) ?_
    refine J_aload_0 dX6_count_82 ?_
    refine J_get dX6_count_83 fl_X6_11 h0 rfl ?_
    refine J_iconst (v := nI 1) dX6_count_86 (by decide) ?_
    refine J_aald dX6_count_87 hfc ⟨_, rfl⟩ rfl (by omega) (by omega) (hfc0 1 (by decide)) ?_
    refine J_cV0i dX6_count_88 jmX1_frames mv_X6_217 c1 rfl (Nat.le_of_ble_eq_true rfl) (by decide) (b1) ?_
    exact J_iret dX6_count_91 rfl (⟨rfl, p, offB.rf⟩)
  · refine J_iload_1 dX6_count_0 ?_
    refine J_tabN (tgt := 92) dX6_count_1 (by decide) (by decide) rfl (by decide) ?_
    refine J_aload_0 dX6_count_92 ?_
    refine J_iconst (v := nI 1) dX6_count_93 (by decide) ?_
    refine J_cV1 dX6_count_94 jmX6_pulls mv_X6_291 h0 rfl (Nat.le_of_ble_eq_true rfl) (by decide) (c_pulls_ok p (l := 1) (by decide)) (fun r h' q => ?_)
    obtain ⟨rfl, p2, o2⟩ := q
    exact J_iret dX6_count_97 rfl (⟨rfl, p2, o2⟩)
  · refine J_iload_1 dX6_count_0 ?_
    refine J_tabN (tgt := 98) dX6_count_1 (by decide) (by decide) rfl (by decide) ?_
    refine J_aload_0 dX6_count_98 ?_
    refine J_cV0 dX6_count_99 jmX6_keptEdits mv_X6_294 h0 rfl (Nat.le_of_ble_eq_true rfl) (by decide) (c_kept p) (fun r h' q => ?_)
    obtain ⟨rfl, p2, o2⟩ := q
    exact J_iret dX6_count_102 rfl (⟨rfl, p2, o2⟩)
  · refine J_iload_1 dX6_count_0 ?_
    refine J_tabN (tgt := 103) dX6_count_1 (by decide) (by decide) rfl (by decide) ?_
    refine J_aload_0 dX6_count_103 ?_
    refine J_get dX6_count_104 fl_X6_22 h0 rfl ?_
    refine J_iconst (v := nI 0) dX6_count_107 (by decide) ?_
    refine J_iald dX6_count_108 hfs rfl (by omega) (by omega) ?_
    refine J_topi (b := nI (dst D 0)) (e6) ?_
    exact J_iret dX6_count_109 rfl (⟨rfl, p, offB.rf⟩)
  · refine J_iload_1 dX6_count_0 ?_
    refine J_tabN (tgt := 110) dX6_count_1 (by decide) (by decide) rfl (by decide) ?_
    refine J_aload_0 dX6_count_110 ?_
    refine J_iconst (v := -1) dX6_count_111 (by decide) ?_
    refine J_cV1 dX6_count_112 jmX6_anew mv_X6_297 h0 rfl (Nat.le_of_ble_eq_true rfl) (by decide) (c_anew_n p) (fun r h' q => ?_)
    obtain ⟨rfl, p2, o2⟩ := q
    exact J_iret dX6_count_115 rfl (⟨rfl, p2, o2⟩)
  · refine J_iload_1 dX6_count_0 ?_
    refine J_tabN (tgt := 116) dX6_count_1 (by decide) (by decide) rfl (by decide) ?_
    refine J_aload_0 dX6_count_116 ?_
    refine J_get dX6_count_117 fl_X6_122 h0 rfl ?_
    exact J_iret dX6_count_120 rfl (⟨rfl, p, offB.rf⟩)
theorem l_dTold (p : dkAt h D ca xs) {f : Nat} (hf : f < 10000000) {fin a0 : Int64} : ∀ (k w : Nat) (a : Int64), w + k = 4 → dgl (fun w => nI (toldN f (dst D 0) w)) w k a = fin → J X RX6 cX6_digestOfTold 7 3 (some .long) (fun r h' => r = some (.long fin) ∧ h' = h) 6 [some (.ref 0), some (.long a0), none, some (.int (nI f)), some (.long a), none, some (.int (nI w))] [] h := by
  have h0 := p.1
  intro k
  induction k with
  | zero =>
    intro w a hw he
    have he : a = fin := he
    subst he
    refine J_iload_6 dX6_digestOfTold_6 ?_
    refine J_iconst (v := nI 3) dX6_digestOfTold_8 (by decide) ?_
    refine J_icmp_gtN (tgt := 35) dX6_digestOfTold_9 (by decide) (by omega) (by omega) (fun _ => ?_) (fun c => absurd c (by omega))
    refine J_lload_4 dX6_digestOfTold_35 ?_
    exact J_lret dX6_digestOfTold_37 rfl (⟨rfl, rfl⟩)
  | succ k ih =>
    intro w a hw he
    rw [dgl] at he
    refine J_iload_6 dX6_digestOfTold_6 ?_
    refine J_iconst (v := nI 3) dX6_digestOfTold_8 (by decide) ?_
    refine J_icmp_gtN (tgt := 35) dX6_digestOfTold_9 (by decide) (by omega) (by omega) (fun c => absurd c (by omega)) (fun _ => ?_)
    refine J_ldc2_w dX6_digestOfTold_12 kl_X6_302 ?_
    refine J_lload_4 dX6_digestOfTold_15 ?_
    refine J_lmul dX6_digestOfTold_17 ?_
    refine J_aload_0 dX6_digestOfTold_18 ?_
    refine J_iload_3 dX6_digestOfTold_19 ?_
    refine J_iload_6 dX6_digestOfTold_20 ?_
    refine J_cV2i dX6_digestOfTold_22 jmX6_told mv_X6_350 h0 rfl (Nat.le_of_ble_eq_true rfl) (by decide) (c_told_ok p hf (by omega)) ?_
    refine J_i2l dX6_digestOfTold_25 ?_
    refine J_ladd dX6_digestOfTold_26 ?_
    refine J_lstore_4 dX6_digestOfTold_27 (Nat.le_of_ble_eq_true rfl) rfl ?_
    first | refine J_inc_6 dX6_digestOfTold_29 (Nat.le_of_ble_eq_true rfl) rfl ?_ | refine J_iinc_6 dX6_digestOfTold_29 rfl (Nat.le_of_ble_eq_true rfl) rfl ?_
    refine J_goto (tgt := 6) dX6_digestOfTold_32 (by decide) ?_
    exact ih (w + 1) _ (by omega) he
theorem c_dTold (p : dkAt h D ca xs) {f : Nat} (hf : f < 10000000) {a : Int64} : Ct X mX6_digestOfTold 3 [.ref 0, .long a, .int (nI f)] h (fun r h' => r = some (.long (dgT D f a)) ∧ h' = h) := by
  refine Ct_of jmX6_digestOfTold [some (.ref 0), some (.long a), none, some (.int (nI f)), none, none, none] (Nat.le_of_ble_eq_true rfl) rfl ?_
  show J X RX6 cX6_digestOfTold 7 _ (some .long) _ 0 _ _ _
  refine J_lload_1 dX6_digestOfTold_0 ?_
  refine J_lstore_4 dX6_digestOfTold_1 (Nat.le_of_ble_eq_true rfl) rfl ?_
  refine J_iconst (v := nI 0) dX6_digestOfTold_3 (by decide) ?_
  refine J_istore_6 dX6_digestOfTold_4 (Nat.le_of_ble_eq_true rfl) rfl ?_
  exact l_dTold p hf 4 0 a (by omega) rfl
theorem l_dInfo (p : dkAt h D ca xs) {l e : Nat} (hl : l < 2) (he : e < dn D l) {Q : Option Value → HF → Prop} {a0 : Int64} {fin : Int64} (kk : J X RX6 cX6_digestOfEdits 8 5 (some .long) Q 55 [some (.ref 0), some (.long a0), none, some (.int (nI l)), some (.long fin), none, some (.int (nI e)), some (.int (nI 8))] [] h) : ∀ (k w : Nat) (a : Int64), w + k = 8 → dgl (sInfo D l e) w k a = fin →
    J X RX6 cX6_digestOfEdits 8 5 (some .long) Q 23 [some (.ref 0), some (.long a0), none, some (.int (nI l)), some (.long a), none, some (.int (nI e)), some (.int (nI w))] [] h := by
  have h0 := p.1
  intro k
  induction k with
  | zero =>
    intro w a hw hf
    have hf : a = fin := hf
    subst hf
    obtain rfl : w = 8 := by omega
    refine J_iload_7 dX6_digestOfEdits_23 ?_
    refine J_bipush (v := nI 7) dX6_digestOfEdits_25 (by decide) ?_
    refine J_icmp_gtN (tgt := 55) dX6_digestOfEdits_27 (by decide) (by omega) (by omega) (fun _ => ?_) (fun c => absurd c (by omega))
    exact kk
  | succ k ih =>
    intro w a hw hf
    rw [dgl] at hf
    refine J_iload_7 dX6_digestOfEdits_23 ?_
    refine J_bipush (v := nI 7) dX6_digestOfEdits_25 (by decide) ?_
    refine J_icmp_gtN (tgt := 55) dX6_digestOfEdits_27 (by decide) (by omega) (by omega) (fun c => absurd c (by omega)) (fun _ => ?_)
    refine J_ldc2_w dX6_digestOfEdits_30 kl_X6_302 ?_
    refine J_lload_4 dX6_digestOfEdits_33 ?_
    refine J_lmul dX6_digestOfEdits_35 ?_
    refine J_aload_0 dX6_digestOfEdits_36 ?_
    refine J_iload_3 dX6_digestOfEdits_37 ?_
    refine J_iload_6 dX6_digestOfEdits_38 ?_
    refine J_iload_7 dX6_digestOfEdits_40 ?_
    refine J_cV3i dX6_digestOfEdits_42 jmX6_info mv_X6_329 h0 rfl (Nat.le_of_ble_eq_true rfl) (by decide) (c_info_ok p hl he (by omega)) ?_
    refine J_i2l dX6_digestOfEdits_45 ?_
    refine J_ladd dX6_digestOfEdits_46 ?_
    refine J_lstore_4 dX6_digestOfEdits_47 (Nat.le_of_ble_eq_true rfl) rfl ?_
    first | refine J_inc_7 dX6_digestOfEdits_49 (Nat.le_of_ble_eq_true rfl) rfl ?_ | refine J_iinc_7 dX6_digestOfEdits_49 rfl (Nat.le_of_ble_eq_true rfl) rfl ?_
    refine J_goto (tgt := 23) dX6_digestOfEdits_52 (by decide) ?_
    exact ih (w + 1) _ (by omega) hf
theorem l_dEd (p : dkAt h D ca xs) {l : Nat} (hl : l < 2) {fin a0 : Int64} : ∀ (k e : Nat) (a : Int64) (o7 : Option Value), e + k = dn D l → dgE D l e k a = fin →
    J X RX6 cX6_digestOfEdits 8 5 (some .long) (fun r h' => r = some (.long fin) ∧ h' = h) 6 [some (.ref 0), some (.long a0), none, some (.int (nI l)), some (.long a), none, some (.int (nI e)), o7] [] h := by
  obtain ⟨h0, ⟨fc, hfc, hfc0⟩, hca, hcut, hrest⟩ := id p
  have hc := (hcut l hl).1
  have hn := (hcut l hl).2.2.2
  intro k
  induction k with
  | zero =>
    intro e a o7 he hf
    have hf : a = fin := hf
    subst hf
    refine J_iload_6 dX6_digestOfEdits_6 ?_
    refine J_aload_0 dX6_digestOfEdits_8 ?_
    refine J_get dX6_digestOfEdits_9 fl_X6_11 h0 rfl ?_
    refine J_iload_3 dX6_digestOfEdits_12 ?_
    refine J_aald dX6_digestOfEdits_13 hfc ⟨_, rfl⟩ rfl (by omega) (by omega) (hfc0 l hl) ?_
    refine J_get dX6_digestOfEdits_14 fl_X6_76 hc rfl ?_
    refine J_icmp_geN (tgt := 97) dX6_digestOfEdits_17 (by decide) (by omega) (by omega) (fun _ => ?_) (fun c => absurd c (by omega))
    refine J_lload_4 dX6_digestOfEdits_97 ?_
    exact J_lret dX6_digestOfEdits_99 rfl (⟨rfl, rfl⟩)
  | succ k ih =>
    intro e a o7 he hf
    rw [dgE] at hf
    refine J_iload_6 dX6_digestOfEdits_6 ?_
    refine J_aload_0 dX6_digestOfEdits_8 ?_
    refine J_get dX6_digestOfEdits_9 fl_X6_11 h0 rfl ?_
    refine J_iload_3 dX6_digestOfEdits_12 ?_
    refine J_aald dX6_digestOfEdits_13 hfc ⟨_, rfl⟩ rfl (by omega) (by omega) (hfc0 l hl) ?_
    refine J_get dX6_digestOfEdits_14 fl_X6_76 hc rfl ?_
    refine J_icmp_geN (tgt := 97) dX6_digestOfEdits_17 (by decide) (by omega) (by omega) (fun c => absurd c (by omega)) (fun _ => ?_)
    refine J_iconst (v := nI 0) dX6_digestOfEdits_20 (by decide) ?_
    refine J_istore_7 dX6_digestOfEdits_21 (Nat.le_of_ble_eq_true rfl) rfl ?_
    refine l_dInfo p hl (by omega) ?_ 8 0 a (by omega) rfl
    refine J_ldc2_w dX6_digestOfEdits_55 kl_X6_302 ?_
    refine J_lload_4 dX6_digestOfEdits_58 ?_
    refine J_lmul dX6_digestOfEdits_60 ?_
    refine J_aload_0 dX6_digestOfEdits_61 ?_
    refine J_iload_3 dX6_digestOfEdits_62 ?_
    refine J_iload_6 dX6_digestOfEdits_63 ?_
    refine J_iconst (v := nI 0) dX6_digestOfEdits_65 (by decide) ?_
    refine J_cV3i dX6_digestOfEdits_66 jmX6_still mv_X6_332 h0 rfl (Nat.le_of_ble_eq_true rfl) (by decide) (c_still_ok p hl (by omega) (w := 0) (by decide)) ?_
    refine J_i2l dX6_digestOfEdits_69 ?_
    refine J_ladd dX6_digestOfEdits_70 ?_
    refine J_lstore_4 dX6_digestOfEdits_71 (Nat.le_of_ble_eq_true rfl) rfl ?_
    refine J_ldc2_w dX6_digestOfEdits_73 kl_X6_302 ?_
    refine J_lload_4 dX6_digestOfEdits_76 ?_
    refine J_lmul dX6_digestOfEdits_78 ?_
    refine J_aload_0 dX6_digestOfEdits_79 ?_
    refine J_iload_3 dX6_digestOfEdits_80 ?_
    refine J_iload_6 dX6_digestOfEdits_81 ?_
    refine J_iconst (v := nI 1) dX6_digestOfEdits_83 (by decide) ?_
    refine J_cV3i dX6_digestOfEdits_84 jmX6_still mv_X6_332 h0 rfl (Nat.le_of_ble_eq_true rfl) (by decide) (c_still_ok p hl (by omega) (w := 1) (by decide)) ?_
    refine J_i2l dX6_digestOfEdits_87 ?_
    refine J_ladd dX6_digestOfEdits_88 ?_
    refine J_lstore_4 dX6_digestOfEdits_89 (Nat.le_of_ble_eq_true rfl) rfl ?_
    first | refine J_inc_6 dX6_digestOfEdits_91 (Nat.le_of_ble_eq_true rfl) rfl ?_ | refine J_iinc_6 dX6_digestOfEdits_91 rfl (Nat.le_of_ble_eq_true rfl) rfl ?_
    refine J_goto (tgt := 6) dX6_digestOfEdits_94 (by decide) ?_
    exact ih (e + 1) _ _ (by omega) hf
theorem c_dEd (p : dkAt h D ca xs) {l : Nat} (hl : l < 2) {a : Int64} : Ct X mX6_digestOfEdits 5 [.ref 0, .long a, .int (nI l)] h (fun r h' => r = some (.long (dgE D l 0 (dn D l) a)) ∧ h' = h) := by
  refine Ct_of jmX6_digestOfEdits [some (.ref 0), some (.long a), none, some (.int (nI l)), none, none, none, none] (Nat.le_of_ble_eq_true rfl) rfl ?_
  show J X RX6 cX6_digestOfEdits 8 _ (some .long) _ 0 _ _ _
  refine J_lload_1 dX6_digestOfEdits_0 ?_
  refine J_lstore_4 dX6_digestOfEdits_1 (Nat.le_of_ble_eq_true rfl) rfl ?_
  refine J_iconst (v := nI 0) dX6_digestOfEdits_3 (by decide) ?_
  refine J_istore_6 dX6_digestOfEdits_4 (Nat.le_of_ble_eq_true rfl) rfl ?_
  exact l_dEd p hl (dn D l) 0 a none (by omega) rfl
theorem l_dPw {h : HF} {l i : Nat} (hl : l < 2) (hi : i < 8) {Q : Option Value → HF → Prop} {a0 fin : Int64} (kk : ∀ h1, dkAt h1 D ca xs → offB h h1 0 51 → J X RX6 cX6_digestOfList 8 5 (some .long) Q 47 [some (.ref 0), some (.long a0), none, some (.int (nI l)), some (.long fin), none, some (.int (nI i)), some (.int (nI 5))] [] h1) : ∀ (k w : Nat) (a : Int64) (h1 : HF), w + k = 5 → dkAt h1 D ca xs → offB h h1 0 51 → dgl (sPull D l i) w k a = fin →
    J X RX6 cX6_digestOfList 8 5 (some .long) Q 16 [some (.ref 0), some (.long a0), none, some (.int (nI l)), some (.long a), none, some (.int (nI i)), some (.int (nI w))] [] h1 := by
  intro k
  induction k with
  | zero =>
    intro w a h1 hw p ho hf
    have hf : a = fin := hf
    subst hf
    obtain rfl : w = 5 := by omega
    refine J_iload_7 dX6_digestOfList_16 ?_
    refine J_iconst (v := nI 4) dX6_digestOfList_18 (by decide) ?_
    refine J_icmp_gtN (tgt := 47) dX6_digestOfList_19 (by decide) (by omega) (by omega) (fun _ => ?_) (fun c => absurd c (by omega))
    exact kk h1 p ho
  | succ k ih =>
    intro w a h1 hw p ho hf
    have h0 := p.1
    rw [dgl] at hf
    refine J_iload_7 dX6_digestOfList_16 ?_
    refine J_iconst (v := nI 4) dX6_digestOfList_18 (by decide) ?_
    refine J_icmp_gtN (tgt := 47) dX6_digestOfList_19 (by decide) (by omega) (by omega) (fun c => absurd c (by omega)) (fun _ => ?_)
    refine J_ldc2_w dX6_digestOfList_22 kl_X6_302 ?_
    refine J_lload_4 dX6_digestOfList_25 ?_
    refine J_lmul dX6_digestOfList_27 ?_
    refine J_aload_0 dX6_digestOfList_28 ?_
    refine J_iload_3 dX6_digestOfList_29 ?_
    refine J_iload_6 dX6_digestOfList_30 ?_
    refine J_iload_7 dX6_digestOfList_32 ?_
    refine J_cV3 dX6_digestOfList_34 jmX6_pull mv_X6_335 h0 rfl (Nat.le_of_ble_eq_true rfl) (by decide) (c_pull_ok p hl hi (by omega)) (fun r h' q => ?_)
    obtain ⟨rfl, p2, o2⟩ := q
    refine J_i2l dX6_digestOfList_37 ?_
    refine J_ladd dX6_digestOfList_38 ?_
    refine J_lstore_4 dX6_digestOfList_39 (Nat.le_of_ble_eq_true rfl) rfl ?_
    first | refine J_inc_7 dX6_digestOfList_41 (Nat.le_of_ble_eq_true rfl) rfl ?_ | refine J_iinc_7 dX6_digestOfList_41 rfl (Nat.le_of_ble_eq_true rfl) rfl ?_
    refine J_goto (tgt := 16) dX6_digestOfList_44 (by decide) ?_
    exact ih (w + 1) _ _ (by omega) p2 (ho.tr o2) hf
theorem l_dPi {h : HF} {l : Nat} (hl : l < 2) {Q : Option Value → HF → Prop} {a0 fin : Int64} (kk : ∀ h1 o7, dkAt h1 D ca xs → offB h h1 0 51 → J X RX6 cX6_digestOfList 8 5 (some .long) Q 53 [some (.ref 0), some (.long a0), none, some (.int (nI l)), some (.long fin), none, some (.int (nI 8)), o7] [] h1) : ∀ (k i : Nat) (a : Int64) (h1 : HF) (o7 : Option Value), i + k = 8 → dkAt h1 D ca xs → offB h h1 0 51 → dgP D l i k a = fin →
    J X RX6 cX6_digestOfList 8 5 (some .long) Q 6 [some (.ref 0), some (.long a0), none, some (.int (nI l)), some (.long a), none, some (.int (nI i)), o7] [] h1 := by
  intro k
  induction k with
  | zero =>
    intro i a h1 o7 hi p ho hf
    have hf : a = fin := hf
    subst hf
    obtain rfl : i = 8 := by omega
    refine J_iload_6 dX6_digestOfList_6 ?_
    refine J_bipush (v := nI 8) dX6_digestOfList_8 (by decide) ?_
    refine J_icmp_geN (tgt := 53) dX6_digestOfList_10 (by decide) (by omega) (by omega) (fun _ => ?_) (fun c => absurd c (by omega))
    exact kk h1 _ p ho
  | succ k ih =>
    intro i a h1 o7 hi p ho hf
    rw [dgP] at hf
    refine J_iload_6 dX6_digestOfList_6 ?_
    refine J_bipush (v := nI 8) dX6_digestOfList_8 (by decide) ?_
    refine J_icmp_geN (tgt := 53) dX6_digestOfList_10 (by decide) (by omega) (by omega) (fun c => absurd c (by omega)) (fun _ => ?_)
    refine J_iconst (v := nI 0) dX6_digestOfList_13 (by decide) ?_
    refine J_istore_7 dX6_digestOfList_14 (Nat.le_of_ble_eq_true rfl) rfl ?_
    refine l_dPw (h := h) hl (by omega) (fun h2 p2 o2 => ?_) 5 0 a h1 (by omega) p ho rfl
    first | refine J_inc_6 dX6_digestOfList_47 (Nat.le_of_ble_eq_true rfl) rfl ?_ | refine J_iinc_6 dX6_digestOfList_47 rfl (Nat.le_of_ble_eq_true rfl) rfl ?_
    refine J_goto (tgt := 6) dX6_digestOfList_50 (by decide) ?_
    exact ih (i + 1) _ _ _ (by omega) p2 o2 hf
theorem l_dTo {h : HF} {l : Nat} (hl : l < 2) {Q : Option Value → HF → Prop} {a0 fin : Int64} (kk : ∀ h1 o7, dkAt h1 D ca xs → offB h h1 0 51 → J X RX6 cX6_digestOfList 8 5 (some .long) Q 100 [some (.ref 0), some (.long a0), none, some (.int (nI l)), some (.long fin), none, some (.int (nI 3)), o7] [] h1) : ∀ (k w : Nat) (a : Int64) (h1 : HF) (o7 : Option Value), w + k = 3 → dkAt h1 D ca xs → offB h h1 0 51 → dgl (sTotal D l) w k a = fin →
    J X RX6 cX6_digestOfList 8 5 (some .long) Q 71 [some (.ref 0), some (.long a0), none, some (.int (nI l)), some (.long a), none, some (.int (nI w)), o7] [] h1 := by
  intro k
  induction k with
  | zero =>
    intro w a h1 o7 hw p ho hf
    have hf : a = fin := hf
    subst hf
    obtain rfl : w = 3 := by omega
    refine J_iload_6 dX6_digestOfList_71 ?_
    refine J_iconst (v := nI 2) dX6_digestOfList_73 (by decide) ?_
    refine J_icmp_gtN (tgt := 100) dX6_digestOfList_74 (by decide) (by omega) (by omega) (fun _ => ?_) (fun c => absurd c (by omega))
    exact kk h1 _ p ho
  | succ k ih =>
    intro w a h1 o7 hw p ho hf
    have h0 := p.1
    rw [dgl] at hf
    refine J_iload_6 dX6_digestOfList_71 ?_
    refine J_iconst (v := nI 2) dX6_digestOfList_73 (by decide) ?_
    refine J_icmp_gtN (tgt := 100) dX6_digestOfList_74 (by decide) (by omega) (by omega) (fun c => absurd c (by omega)) (fun _ => ?_)
    refine J_ldc2_w dX6_digestOfList_77 kl_X6_302 ?_
    refine J_lload_4 dX6_digestOfList_80 ?_
    refine J_lmul dX6_digestOfList_82 ?_
    refine J_aload_0 dX6_digestOfList_83 ?_
    refine J_iload_3 dX6_digestOfList_84 ?_
    refine J_iload_6 dX6_digestOfList_85 ?_
    refine J_cV2 dX6_digestOfList_87 jmX6_total mv_X6_341 h0 rfl (Nat.le_of_ble_eq_true rfl) (by decide) (c_total_ok p hl (by omega)) (fun r h' q => ?_)
    obtain ⟨rfl, p2, o2⟩ := q
    refine J_i2l dX6_digestOfList_90 ?_
    refine J_ladd dX6_digestOfList_91 ?_
    refine J_lstore_4 dX6_digestOfList_92 (Nat.le_of_ble_eq_true rfl) rfl ?_
    first | refine J_inc_6 dX6_digestOfList_94 (Nat.le_of_ble_eq_true rfl) rfl ?_ | refine J_iinc_6 dX6_digestOfList_94 rfl (Nat.le_of_ble_eq_true rfl) rfl ?_
    refine J_goto (tgt := 71) dX6_digestOfList_97 (by decide) ?_
    exact ih (w + 1) _ _ _ (by omega) p2 (ho.tr o2) hf
theorem l_dSh (p : dkAt h D ca xs) {l : Nat} (hl : l < 2) {Q : Option Value → HF → Prop} {a0 fin : Int64} {o7 : Option Value} (kk : J X RX6 cX6_digestOfList 8 5 (some .long) Q 134 [some (.ref 0), some (.long a0), none, some (.int (nI l)), some (.long fin), none, some (.int (nI 4)), o7] [] h) : ∀ (k w : Nat) (a : Int64), w + k = 4 → dgl (sShows D l 7) w k a = fin →
    J X RX6 cX6_digestOfList 8 5 (some .long) Q 103 [some (.ref 0), some (.long a0), none, some (.int (nI l)), some (.long a), none, some (.int (nI w)), o7] [] h := by
  have h0 := p.1
  intro k
  induction k with
  | zero =>
    intro w a hw hf
    have hf : a = fin := hf
    subst hf
    obtain rfl : w = 4 := by omega
    refine J_iload_6 dX6_digestOfList_103 ?_
    refine J_iconst (v := nI 3) dX6_digestOfList_105 (by decide) ?_
    refine J_icmp_gtN (tgt := 134) dX6_digestOfList_106 (by decide) (by omega) (by omega) (fun _ => ?_) (fun c => absurd c (by omega))
    exact kk
  | succ k ih =>
    intro w a hw hf
    rw [dgl] at hf
    refine J_iload_6 dX6_digestOfList_103 ?_
    refine J_iconst (v := nI 3) dX6_digestOfList_105 (by decide) ?_
    refine J_icmp_gtN (tgt := 134) dX6_digestOfList_106 (by decide) (by omega) (by omega) (fun c => absurd c (by omega)) (fun _ => ?_)
    refine J_ldc2_w dX6_digestOfList_109 kl_X6_302 ?_
    refine J_lload_4 dX6_digestOfList_112 ?_
    refine J_lmul dX6_digestOfList_114 ?_
    refine J_aload_0 dX6_digestOfList_115 ?_
    refine J_iload_3 dX6_digestOfList_116 ?_
    refine J_bipush (v := nI 7) dX6_digestOfList_117 (by decide) ?_
    refine J_iload_6 dX6_digestOfList_119 ?_
    refine J_cV3i dX6_digestOfList_121 jmX6_shows mv_X6_344 h0 rfl (Nat.le_of_ble_eq_true rfl) (by decide) (c_shows_ok p hl (f := 7) (by decide) (by omega)) ?_
    refine J_i2l dX6_digestOfList_124 ?_
    refine J_ladd dX6_digestOfList_125 ?_
    refine J_lstore_4 dX6_digestOfList_126 (Nat.le_of_ble_eq_true rfl) rfl ?_
    first | refine J_inc_6 dX6_digestOfList_128 (Nat.le_of_ble_eq_true rfl) rfl ?_ | refine J_iinc_6 dX6_digestOfList_128 rfl (Nat.le_of_ble_eq_true rfl) rfl ?_
    refine J_goto (tgt := 103) dX6_digestOfList_131 (by decide) ?_
    exact ih (w + 1) _ (by omega) hf
theorem c_dLi (p : dkAt h D ca xs) {l : Nat} (hl : l < 2) {a : Int64} : Ct X mX6_digestOfList 5 [.ref 0, .long a, .int (nI l)] h (fun r h' => r = some (.long (dgLi D l a)) ∧ dkAt h' D ca xs ∧ offB h h' 0 51) := by
  refine Ct_of jmX6_digestOfList [some (.ref 0), some (.long a), none, some (.int (nI l)), none, none, none, none] (Nat.le_of_ble_eq_true rfl) rfl ?_
  show J X RX6 cX6_digestOfList 8 _ (some .long) _ 0 _ _ _
  refine J_lload_1 dX6_digestOfList_0 ?_
  refine J_lstore_4 dX6_digestOfList_1 (Nat.le_of_ble_eq_true rfl) rfl ?_
  refine J_iconst (v := nI 0) dX6_digestOfList_3 (by decide) ?_
  refine J_istore_6 dX6_digestOfList_4 (Nat.le_of_ble_eq_true rfl) rfl ?_
  refine l_dPi hl (fun h1 o7 p1 o1 => ?_) 8 0 a h none (by omega) p offB.rf rfl
  have h0 := p1.1
  refine J_ldc2_w dX6_digestOfList_53 kl_X6_302 ?_
  refine J_lload_4 dX6_digestOfList_56 ?_
  refine J_lmul dX6_digestOfList_58 ?_
  refine J_aload_0 dX6_digestOfList_59 ?_
  refine J_iload_3 dX6_digestOfList_60 ?_
  refine J_cV1 dX6_digestOfList_61 jmX6_waste mv_X6_338 h0 rfl (Nat.le_of_ble_eq_true rfl) (by decide) (c_waste_ok p1 hl) (fun r h' q => ?_)
  obtain ⟨rfl, p2, o2⟩ := q
  refine J_i2l dX6_digestOfList_64 ?_
  refine J_ladd dX6_digestOfList_65 ?_
  refine J_lstore_4 dX6_digestOfList_66 (Nat.le_of_ble_eq_true rfl) rfl ?_
  refine J_iconst (v := nI 0) dX6_digestOfList_68 (by decide) ?_
  refine J_istore_6 dX6_digestOfList_69 (Nat.le_of_ble_eq_true rfl) rfl ?_
  refine l_dTo (h := h) hl (fun h3 o7 p3 o3 => ?_) 3 0 _ h' _ (by omega) p2 (o1.tr o2) rfl
  have k0 := p3.1
  refine J_iconst (v := nI 0) dX6_digestOfList_100 (by decide) ?_
  refine J_istore_6 dX6_digestOfList_101 (Nat.le_of_ble_eq_true rfl) rfl ?_
  refine l_dSh p3 hl ?_ 4 0 _ (by omega) rfl
  refine J_ldc2_w dX6_digestOfList_134 kl_X6_302 ?_
  refine J_lload_4 dX6_digestOfList_137 ?_
  refine J_lmul dX6_digestOfList_139 ?_
  refine J_aload_0 dX6_digestOfList_140 ?_
  refine J_iload_3 dX6_digestOfList_141 ?_
  refine J_iconst (v := nI 1) dX6_digestOfList_142 (by decide) ?_
  refine J_bipush (v := nI 100) dX6_digestOfList_143 (by decide) ?_
  refine J_iconst (v := nI 0) dX6_digestOfList_145 (by decide) ?_
  refine J_cV4i dX6_digestOfList_146 jmX6_seen mv_X6_347 k0 rfl (Nat.le_of_ble_eq_true rfl) (by decide) (c_seen_ok p3 hl (r := 1) (f := 100) (w := 0) (by decide) (by decide) (by decide)) ?_
  refine J_i2l dX6_digestOfList_149 ?_
  refine J_ladd dX6_digestOfList_150 ?_
  refine J_lstore_4 dX6_digestOfList_151 (Nat.le_of_ble_eq_true rfl) rfl ?_
  refine J_ldc2_w dX6_digestOfList_153 kl_X6_302 ?_
  refine J_lload_4 dX6_digestOfList_156 ?_
  refine J_lmul dX6_digestOfList_158 ?_
  refine J_aload_0 dX6_digestOfList_159 ?_
  refine J_iload_3 dX6_digestOfList_160 ?_
  refine J_iconst (v := nI 1) dX6_digestOfList_161 (by decide) ?_
  refine J_bipush (v := nI 100) dX6_digestOfList_162 (by decide) ?_
  refine J_iconst (v := nI 1) dX6_digestOfList_164 (by decide) ?_
  refine J_cV4i dX6_digestOfList_165 jmX6_seen mv_X6_347 k0 rfl (Nat.le_of_ble_eq_true rfl) (by decide) (c_seen_ok p3 hl (r := 1) (f := 100) (w := 1) (by decide) (by decide) (by decide)) ?_
  refine J_i2l dX6_digestOfList_168 ?_
  refine J_ladd dX6_digestOfList_169 ?_
  exact J_lret dX6_digestOfList_170 rfl (⟨rfl, p3, o3⟩)
theorem l_dCn {h : HF} {Q : Option Value → HF → Prop} {fin : Int64} (kk : ∀ h1, dkAt h1 D ca xs → offB h h1 0 51 → J X RX6 cX6_digest 5 6 (some .long) Q 31 [some (.ref 0), some (.long fin), none, some (.int (nI 8)), none] [] h1) : ∀ (k w : Nat) (a : Int64) (h1 : HF), w + k = 8 → dkAt h1 D ca xs → offB h h1 0 51 → dgl (sCnt D) w k a = fin → J X RX6 cX6_digest 5 6 (some .long) Q 6 [some (.ref 0), some (.long a), none, some (.int (nI w)), none] [] h1 := by
  intro k
  induction k with
  | zero =>
    intro w a h1 hw p ho hf
    have hf : a = fin := hf
    subst hf
    obtain rfl : w = 8 := by omega
    refine J_iload_3 dX6_digest_6 ?_
    refine J_bipush (v := nI 7) dX6_digest_7 (by decide) ?_
    refine J_icmp_gtN (tgt := 31) dX6_digest_9 (by decide) (by omega) (by omega) (fun _ => ?_) (fun c => absurd c (by omega))
    exact kk h1 p ho
  | succ k ih =>
    intro w a h1 hw p ho hf
    have h0 := p.1
    rw [dgl] at hf
    refine J_iload_3 dX6_digest_6 ?_
    refine J_bipush (v := nI 7) dX6_digest_7 (by decide) ?_
    refine J_icmp_gtN (tgt := 31) dX6_digest_9 (by decide) (by omega) (by omega) (fun c => absurd c (by omega)) (fun _ => ?_)
    refine J_ldc2_w dX6_digest_12 kl_X6_302 ?_
    refine J_lload_1 dX6_digest_15 ?_
    refine J_lmul dX6_digest_16 ?_
    refine J_aload_0 dX6_digest_17 ?_
    refine J_iload_3 dX6_digest_18 ?_
    refine J_cV1 dX6_digest_19 jmX6_count mv_X6_304 h0 rfl (Nat.le_of_ble_eq_true rfl) (by decide) (c_count_ok p (by omega)) (fun r h' q => ?_)
    obtain ⟨rfl, p2, o2⟩ := q
    refine J_i2l dX6_digest_22 ?_
    refine J_ladd dX6_digest_23 ?_
    refine J_lstore_1 dX6_digest_24 (Nat.le_of_ble_eq_true rfl) rfl ?_
    first | refine J_inc_3 dX6_digest_25 (Nat.le_of_ble_eq_true rfl) rfl ?_ | refine J_iinc_3 dX6_digest_25 rfl (Nat.le_of_ble_eq_true rfl) rfl ?_
    refine J_goto (tgt := 6) dX6_digest_28 (by decide) ?_
    exact ih (w + 1) _ _ (by omega) p2 (ho.tr o2) hf
theorem l_dCw {h : HF} {e : Nat} (he : e < dn D 1) {Q : Option Value → HF → Prop} {fin : Int64} (kk : ∀ h1, dkAt h1 D ca xs → offB h h1 0 51 → J X RX6 cX6_digest 5 6 (some .long) Q 101 [some (.ref 0), some (.long fin), none, some (.int (nI e)), some (.int (nI 3))] [] h1) : ∀ (k w : Nat) (a : Int64) (h1 : HF), w + k = 3 → dkAt h1 D ca xs → offB h h1 0 51 → dgl (sCmp D e) w k a = fin → J X RX6 cX6_digest 5 6 (some .long) Q 74 [some (.ref 0), some (.long a), none, some (.int (nI e)), some (.int (nI w))] [] h1 := by
  intro k
  induction k with
  | zero =>
    intro w a h1 hw p ho hf
    have hf : a = fin := hf
    subst hf
    obtain rfl : w = 3 := by omega
    refine J_iload_4 dX6_digest_74 ?_
    refine J_iconst (v := nI 2) dX6_digest_76 (by decide) ?_
    refine J_icmp_gtN (tgt := 101) dX6_digest_77 (by decide) (by omega) (by omega) (fun _ => ?_) (fun c => absurd c (by omega))
    exact kk h1 p ho
  | succ k ih =>
    intro w a h1 hw p ho hf
    have h0 := p.1
    rw [dgl] at hf
    refine J_iload_4 dX6_digest_74 ?_
    refine J_iconst (v := nI 2) dX6_digest_76 (by decide) ?_
    refine J_icmp_gtN (tgt := 101) dX6_digest_77 (by decide) (by omega) (by omega) (fun c => absurd c (by omega)) (fun _ => ?_)
    refine J_ldc2_w dX6_digest_80 kl_X6_302 ?_
    refine J_lload_1 dX6_digest_83 ?_
    refine J_lmul dX6_digest_84 ?_
    refine J_aload_0 dX6_digest_85 ?_
    refine J_iload_3 dX6_digest_86 ?_
    refine J_iload_4 dX6_digest_87 ?_
    refine J_cV2 dX6_digest_89 jmX6_compare mv_X6_314 h0 rfl (Nat.le_of_ble_eq_true rfl) (by decide) (c_cmp_ok p he (by omega)) (fun r h' q => ?_)
    obtain ⟨rfl, p2, o2⟩ := q
    refine J_i2l dX6_digest_92 ?_
    refine J_ladd dX6_digest_93 ?_
    refine J_lstore_1 dX6_digest_94 (Nat.le_of_ble_eq_true rfl) rfl ?_
    first | refine J_inc_4 dX6_digest_95 (Nat.le_of_ble_eq_true rfl) rfl ?_ | refine J_iinc_4 dX6_digest_95 rfl (Nat.le_of_ble_eq_true rfl) rfl ?_
    refine J_goto (tgt := 74) dX6_digest_98 (by decide) ?_
    exact ih (w + 1) _ _ (by omega) p2 (ho.tr o2) hf
theorem l_dCe {h : HF} {Q : Option Value → HF → Prop} {fin : Int64} (kk : ∀ h1 (n : Nat) o4, dkAt h1 D ca xs → offB h h1 0 51 → J X RX6 cX6_digest 5 6 (some .long) Q 107 [some (.ref 0), some (.long fin), none, some (.int (nI n)), o4] [] h1) : ∀ (k e : Nat) (a : Int64) (h1 : HF) (o4 : Option Value), e + k = dn D 1 → dkAt h1 D ca xs → offB h h1 0 51 → dgC D e k a = fin → J X RX6 cX6_digest 5 6 (some .long) Q 58 [some (.ref 0), some (.long a), none, some (.int (nI e)), o4] [] h1 := by
  intro k
  induction k with
  | zero =>
    intro e a h1 o4 he p ho hf
    obtain ⟨h0, ⟨fc, hfc, hfc0⟩, hca, hcut, hrest⟩ := id p
    have hc := (hcut 1 (by decide)).1
    have hn := (hcut 1 (by decide)).2.2.2
    have hf : a = fin := hf
    subst hf
    refine J_iload_3 dX6_digest_58 ?_
    refine J_aload_0 dX6_digest_59 ?_
    refine J_get dX6_digest_60 fl_X6_11 h0 rfl ?_
    refine J_iconst (v := nI 1) dX6_digest_63 (by decide) ?_
    refine J_aald dX6_digest_64 hfc ⟨_, rfl⟩ rfl (by omega) (by omega) (hfc0 1 (by decide)) ?_
    refine J_get dX6_digest_65 fl_X6_76 hc rfl ?_
    refine J_icmp_geN (tgt := 107) dX6_digest_68 (by decide) (by omega) (by omega) (fun _ => ?_) (fun c => absurd c (by omega))
    exact kk h1 _ _ p ho
  | succ k ih =>
    intro e a h1 o4 he p ho hf
    obtain ⟨h0, ⟨fc, hfc, hfc0⟩, hca, hcut, hrest⟩ := id p
    have hc := (hcut 1 (by decide)).1
    have hn := (hcut 1 (by decide)).2.2.2
    rw [dgC] at hf
    refine J_iload_3 dX6_digest_58 ?_
    refine J_aload_0 dX6_digest_59 ?_
    refine J_get dX6_digest_60 fl_X6_11 h0 rfl ?_
    refine J_iconst (v := nI 1) dX6_digest_63 (by decide) ?_
    refine J_aald dX6_digest_64 hfc ⟨_, rfl⟩ rfl (by omega) (by omega) (hfc0 1 (by decide)) ?_
    refine J_get dX6_digest_65 fl_X6_76 hc rfl ?_
    refine J_icmp_geN (tgt := 107) dX6_digest_68 (by decide) (by omega) (by omega) (fun c => absurd c (by omega)) (fun _ => ?_)
    refine J_iconst (v := nI 0) dX6_digest_71 (by decide) ?_
    refine J_istore_4 dX6_digest_72 (Nat.le_of_ble_eq_true rfl) rfl ?_
    refine l_dCw (h := h) (by omega) (fun h2 p2 o2 => ?_) 3 0 a h1 (by omega) p ho rfl
    first | refine J_inc_3 dX6_digest_101 (Nat.le_of_ble_eq_true rfl) rfl ?_ | refine J_iinc_3 dX6_digest_101 rfl (Nat.le_of_ble_eq_true rfl) rfl ?_
    refine J_goto (tgt := 58) dX6_digest_104 (by decide) ?_
    exact ih (e + 1) _ _ _ (by omega) p2 o2 hf
def dgLL (D : DS) (i k : Nat) (a : Int64) : Int64 := match k with
  | 0 => a
  | k + 1 => dgLL D (i + 1) k (dgLi D i (dgE D i 0 (dn D i) a))
theorem l_dLL {h : HF} {Q : Option Value → HF → Prop} {fin : Int64} (kk : ∀ h1, dkAt h1 D ca xs → offB h h1 0 51 → J X RX6 cX6_digest 5 6 (some .long) Q 56 [some (.ref 0), some (.long fin), none, some (.int (nI 2)), none] [] h1) : ∀ (k i : Nat) (a : Int64) (h1 : HF), i + k = 2 → dkAt h1 D ca xs → offB h h1 0 51 → dgLL D i k a = fin → J X RX6 cX6_digest 5 6 (some .long) Q 33 [some (.ref 0), some (.long a), none, some (.int (nI i)), none] [] h1 := by
  intro k
  induction k with
  | zero =>
    intro i a h1 hi p ho hf
    have hf : a = fin := hf
    subst hf
    obtain rfl : i = 2 := by omega
    refine J_iload_3 dX6_digest_33 ?_
    refine J_iconst (v := nI 2) dX6_digest_34 (by decide) ?_
    refine J_icmp_geN (tgt := 56) dX6_digest_35 (by decide) (by omega) (by omega) (fun _ => ?_) (fun c => absurd c (by omega))
    exact kk h1 p ho
  | succ k ih =>
    intro i a h1 hi p ho hf
    have h0 := p.1
    rw [dgLL] at hf
    refine J_iload_3 dX6_digest_33 ?_
    refine J_iconst (v := nI 2) dX6_digest_34 (by decide) ?_
    refine J_icmp_geN (tgt := 56) dX6_digest_35 (by decide) (by omega) (by omega) (fun c => absurd c (by omega)) (fun _ => ?_)
    refine J_aload_0 dX6_digest_38 ?_
    refine J_aload_0 dX6_digest_39 ?_
    refine J_lload_1 dX6_digest_40 ?_
    refine J_iload_3 dX6_digest_41 ?_
    refine J_cV2 dX6_digest_42 jmX6_digestOfEdits mv_X6_307 h0 rfl (Nat.le_of_ble_eq_true rfl) (by decide) (c_dEd p (l := i) (by omega)) (fun r h' q => ?_)
    obtain ⟨rfl, rfl⟩ := q
    refine J_iload_3 dX6_digest_45 ?_
    refine J_cV2 dX6_digest_46 jmX6_digestOfList mv_X6_311 h0 rfl (Nat.le_of_ble_eq_true rfl) (by decide) (c_dLi p (l := i) (by omega)) (fun r h' q => ?_)
    obtain ⟨rfl, p2, o2⟩ := q
    refine J_lstore_1 dX6_digest_49 (Nat.le_of_ble_eq_true rfl) rfl ?_
    first | refine J_inc_3 dX6_digest_50 (Nat.le_of_ble_eq_true rfl) rfl ?_ | refine J_iinc_3 dX6_digest_50 rfl (Nat.le_of_ble_eq_true rfl) rfl ?_
    refine J_goto (tgt := 33) dX6_digest_53 (by decide) ?_
    exact ih (i + 1) _ _ (by omega) p2 (ho.tr o2) hf
theorem rt_0 (D : DS) : 25 ≤ rt (dst D 0) := by have := @rt_v (dst D 0); omega
theorem c_digest (p : dkAt h D ca xs) : Ct X mX6_digest 6 [.ref 0] h (fun r h' => r = some (.long (sDig D)) ∧ dkAt h' D ca xs ∧ offB h h' 0 51) := by
  have hrt := rt_0 D
  refine Ct_of jmX6_digest [some (.ref 0), none, none, none, none] (Nat.le_of_ble_eq_true rfl) rfl ?_
  show J X RX6 cX6_digest 5 _ (some .long) _ 0 _ _ _
  refine J_ldc2_w dX6_digest_0 kl_X6_300 ?_
  refine J_lstore_1 dX6_digest_3 (Nat.le_of_ble_eq_true rfl) rfl ?_
  refine J_iconst (v := nI 0) dX6_digest_4 (by decide) ?_
  refine J_istore_3 dX6_digest_5 (Nat.le_of_ble_eq_true rfl) rfl ?_
  refine l_dCn (h := h) (fun h1 p1 o1 => ?_) 8 0 17 h (by omega) p offB.rf rfl
  refine J_iconst (v := nI 0) dX6_digest_31 (by decide) ?_
  refine J_istore_3 dX6_digest_32 (Nat.le_of_ble_eq_true rfl) rfl ?_
  refine l_dLL (h := h) (fun h2 p2 o2 => ?_) 2 0 _ h1 (by omega) p1 o1 rfl
  refine J_iconst (v := nI 0) dX6_digest_56 (by decide) ?_
  refine J_istore_3 dX6_digest_57 (Nat.le_of_ble_eq_true rfl) rfl ?_
  refine l_dCe (h := h) (fun h3 n o4 p3 o3 => ?_) (dn D 1) 0 _ h2 none (by omega) p2 o2 rfl
  refine J_ldc2_w dX6_digest_107 kl_X6_302 ?_
  refine J_lload_1 dX6_digest_110 ?_
  refine J_lmul dX6_digest_111 ?_
  refine J_aload_0 dX6_digest_112 ?_
  refine J_cV0 dX6_digest_113 jmX6_gone mv_X6_317 p3.1 rfl (Nat.le_of_ble_eq_true rfl) (by decide) (c_gone p3) (fun r h' q => ?_)
  obtain ⟨rfl, pa, oa⟩ := q
  refine J_i2l dX6_digest_116 ?_
  refine J_ladd dX6_digest_117 ?_
  refine J_lstore_1 dX6_digest_118 (Nat.le_of_ble_eq_true rfl) rfl ?_
  refine J_ldc2_w dX6_digest_119 kl_X6_302 ?_
  refine J_lload_1 dX6_digest_122 ?_
  refine J_lmul dX6_digest_123 ?_
  refine J_aload_0 dX6_digest_124 ?_
  refine J_iconst (v := -1) dX6_digest_125 (by decide) ?_
  refine J_cV1 dX6_digest_126 jmX6_anew mv_X6_297 pa.1 rfl (Nat.le_of_ble_eq_true rfl) (by decide) (c_anew_n pa) (fun r h' q => ?_)
  obtain ⟨rfl, pb, ob⟩ := q
  refine J_i2l dX6_digest_129 ?_
  refine J_ladd dX6_digest_130 ?_
  refine J_lstore_1 dX6_digest_131 (Nat.le_of_ble_eq_true rfl) rfl ?_
  refine J_ldc2_w dX6_digest_132 kl_X6_302 ?_
  refine J_lload_1 dX6_digest_135 ?_
  refine J_lmul dX6_digest_136 ?_
  refine J_aload_0 dX6_digest_137 ?_
  refine J_iconst (v := nI 0) dX6_digest_138 (by decide) ?_
  refine J_cV1 dX6_digest_139 jmX6_anew mv_X6_297 pb.1 rfl (Nat.le_of_ble_eq_true rfl) (by decide) (c_anew_i pb (i := 0) (by decide)) (fun r h' q => ?_)
  obtain ⟨rfl, pc, oc⟩ := q
  refine J_i2l dX6_digest_142 ?_
  refine J_ladd dX6_digest_143 ?_
  refine J_lstore_1 dX6_digest_144 (Nat.le_of_ble_eq_true rfl) rfl ?_
  refine J_ldc2_w dX6_digest_145 kl_X6_302 ?_
  refine J_lload_1 dX6_digest_148 ?_
  refine J_lmul dX6_digest_149 ?_
  refine J_aload_0 dX6_digest_150 ?_
  refine J_bipush (v := nI 25) dX6_digest_151 (by decide) ?_
  refine J_cV1 dX6_digest_153 jmX6_anew mv_X6_297 pc.1 rfl (Nat.le_of_ble_eq_true rfl) (by decide) (c_anew_i pc (i := 25) (by decide)) (fun r h' q => ?_)
  obtain ⟨rfl, pd, od⟩ := q
  refine J_i2l dX6_digest_156 ?_
  refine J_ladd dX6_digest_157 ?_
  refine J_lstore_1 dX6_digest_158 (Nat.le_of_ble_eq_true rfl) rfl ?_
  refine J_ldc2_w dX6_digest_159 kl_X6_302 ?_
  refine J_lload_1 dX6_digest_162 ?_
  refine J_lmul dX6_digest_163 ?_
  refine J_aload_0 dX6_digest_164 ?_
  refine J_iconst (v := nI 0) dX6_digest_165 (by decide) ?_
  refine J_cV1 dX6_digest_166 jmX6_saving mv_X6_320 pd.1 rfl (Nat.le_of_ble_eq_true rfl) (by decide) (c_sav_ok pd (w := 0) (by decide)) (fun r h' q => ?_)
  obtain ⟨rfl, pe, oe⟩ := q
  refine J_i2l dX6_digest_169 ?_
  refine J_ladd dX6_digest_170 ?_
  refine J_lstore_1 dX6_digest_171 (Nat.le_of_ble_eq_true rfl) rfl ?_
  refine J_ldc2_w dX6_digest_172 kl_X6_302 ?_
  refine J_lload_1 dX6_digest_175 ?_
  refine J_lmul dX6_digest_176 ?_
  refine J_aload_0 dX6_digest_177 ?_
  refine J_iconst (v := nI 1) dX6_digest_178 (by decide) ?_
  refine J_cV1 dX6_digest_179 jmX6_saving mv_X6_320 pe.1 rfl (Nat.le_of_ble_eq_true rfl) (by decide) (c_sav_ok pe (w := 1) (by decide)) (fun r h' q => ?_)
  obtain ⟨rfl, pf, of⟩ := q
  refine J_i2l dX6_digest_182 ?_
  refine J_ladd dX6_digest_183 ?_
  refine J_lstore_1 dX6_digest_184 (Nat.le_of_ble_eq_true rfl) rfl ?_
  refine J_aload_0 dX6_digest_185 ?_
  refine J_aload_0 dX6_digest_186 ?_
  refine J_aload_0 dX6_digest_187 ?_
  refine J_lload_1 dX6_digest_188 ?_
  refine J_sipush (v := nI 1799) dX6_digest_189 (by decide) ?_
  refine J_cV2 dX6_digest_192 jmX6_digestOfTold mv_X6_323 pf.1 rfl (Nat.le_of_ble_eq_true rfl) (by decide) (c_dTold pf (f := 1799) (by decide)) (fun r h' q => ?_)
  obtain ⟨rfl, rfl⟩ := q
  refine J_sipush (v := nI 1800) dX6_digest_195 (by decide) ?_
  refine J_cV2 dX6_digest_198 jmX6_digestOfTold mv_X6_323 pf.1 rfl (Nat.le_of_ble_eq_true rfl) (by decide) (c_dTold pf (f := 1800) (by decide)) (fun r h' q => ?_)
  obtain ⟨rfl, rfl⟩ := q
  refine J_sipush (v := nI 17982) dX6_digest_201 (by decide) ?_
  refine J_cV2 dX6_digest_204 jmX6_digestOfTold mv_X6_323 pf.1 rfl (Nat.le_of_ble_eq_true rfl) (by decide) (c_dTold pf (f := 17982) (by decide)) (fun r h' q => ?_)
  obtain ⟨rfl, rfl⟩ := q
  refine J_lstore_1 dX6_digest_207 (Nat.le_of_ble_eq_true rfl) rfl ?_
  refine J_ldc2_w dX6_digest_208 kl_X6_302 ?_
  refine J_lload_1 dX6_digest_211 ?_
  refine J_lmul dX6_digest_212 ?_
  refine J_aload_0 dX6_digest_213 ?_
  refine J_iconst (v := nI 0) dX6_digest_214 (by decide) ?_
  refine J_iconst (v := nI 1) dX6_digest_215 (by decide) ?_
  refine J_iconst (v := nI 0) dX6_digest_216 (by decide) ?_
  refine J_iconst (v := nI 0) dX6_digest_217 (by decide) ?_
  refine J_cV4i dX6_digest_218 jmX6_number mv_X6_326 pf.1 rfl (Nat.le_of_ble_eq_true rfl) (by decide) (c_number_ok pf (a := 0) (b := 1) (c := 0) (d := 0) (by decide) (by decide) (by decide) (by omega)) ?_
  refine J_i2l dX6_digest_221 ?_
  refine J_ladd dX6_digest_222 ?_
  refine J_lstore_1 dX6_digest_223 (Nat.le_of_ble_eq_true rfl) rfl ?_
  refine J_ldc2_w dX6_digest_224 kl_X6_302 ?_
  refine J_lload_1 dX6_digest_227 ?_
  refine J_lmul dX6_digest_228 ?_
  refine J_aload_0 dX6_digest_229 ?_
  refine J_iconst (v := nI 0) dX6_digest_230 (by decide) ?_
  refine J_bipush (v := nI 10) dX6_digest_231 (by decide) ?_
  refine J_iconst (v := nI 0) dX6_digest_233 (by decide) ?_
  refine J_iconst (v := nI 0) dX6_digest_234 (by decide) ?_
  refine J_cV4i dX6_digest_235 jmX6_number mv_X6_326 pf.1 rfl (Nat.le_of_ble_eq_true rfl) (by decide) (c_number_ok pf (a := 0) (b := 10) (c := 0) (d := 0) (by decide) (by decide) (by decide) (by omega)) ?_
  refine J_i2l dX6_digest_238 ?_
  refine J_ladd dX6_digest_239 ?_
  refine J_lstore_1 dX6_digest_240 (Nat.le_of_ble_eq_true rfl) rfl ?_
  refine J_ldc2_w dX6_digest_241 kl_X6_302 ?_
  refine J_lload_1 dX6_digest_244 ?_
  refine J_lmul dX6_digest_245 ?_
  refine J_aload_0 dX6_digest_246 ?_
  refine J_iconst (v := nI 1) dX6_digest_247 (by decide) ?_
  refine J_iconst (v := nI 2) dX6_digest_248 (by decide) ?_
  refine J_iconst (v := nI 3) dX6_digest_249 (by decide) ?_
  refine J_iconst (v := nI 4) dX6_digest_250 (by decide) ?_
  refine J_cV4i dX6_digest_251 jmX6_number mv_X6_326 pf.1 rfl (Nat.le_of_ble_eq_true rfl) (by decide) (c_number_ok pf (a := 1) (b := 2) (c := 3) (d := 4) (by decide) (by decide) (by decide) (by omega)) ?_
  refine J_i2l dX6_digest_254 ?_
  refine J_ladd dX6_digest_255 ?_
  exact J_lret dX6_digest_256 rfl (⟨rfl, pf, (((((o3.tr oa).tr ob).tr oc).tr od).tr oe).tr of⟩)
end
