/-! MATCH: the object at a, its row of 8 partners behind it -/
def maAt (h : HF) (a : Nat) (t : Int32) (f : Nat → Int32) : Prop := hAt h a (oB 2 [.ref (a + 1), .int t]) ∧ hAt h (a + 1) (oA 0 8 f)
/-- whether EDIT i of the elder list is free, LIKE and as LONG as wanted -/
def likes (x y : Nat → Nat) : Bool := decide (x 0 = y 0) && (decide (x 1 = y 1) && decide (x 3 * y 4 = y 3 * x 4))
theorem likes_iff {x y : Nat → Nat} : likes x y = true ↔ x 0 = y 0 ∧ x 1 = y 1 ∧ x 3 * y 4 = y 3 * x 4 := by simp [likes]
/-- the bit of EDIT i is not set -/
def isFr (t : Int32) (i : Nat) : Bool := decide ((t >>> (nI i &&& 31)) &&& nI 1 = 0)
def fits8 (t : Int32) (w : Bool) (y x : Nat → Nat) (i : Nat) : Bool := isFr t i && (likes y x && (!w || decide (y 2 = x 2)))
/-- the first of the elder list that EDIT y may have: from i on, k of them -/
def pick (t : Int32) (w : Bool) (y : Nat → Nat) (x : Nat → Nat → Nat) (i k : Nat) : Option Nat := match k with
  | 0 => none
  | k + 1 => if fits8 t w y (x i) i = true then some i else pick t w y x (i + 1) k
def tkBit (t : Int32) (i : Nat) : Int32 := t ||| (nI 1 <<< (nI i &&& 31))
def tkP (o : Option Nat) (t : Int32) : Int32 := match o with
  | none => t
  | some i => tkBit t i
def tkF (o : Option Nat) (f : Nat → Int32) (e : Nat) : Nat → Int32 := match o with
  | none => f
  | some i => upd f e (nI i)
/-- one pass: EDITS e on, k of them -/
def pas (w : Bool) (x y : Nat → Nat → Nat) (n e k : Nat) (s : Int32 × (Nat → Int32)) : Int32 × (Nat → Int32) := match k with
  | 0 => s
  | k + 1 => pas w x y n (e + 1) k (if s.2 e = -1 then (tkP (pick s.1 w (y e) x 0 n) s.1, tkF (pick s.1 w (y e) x 0 n) s.2 e) else s)
theorem pick_lt {t : Int32} {w : Bool} {y : Nat → Nat} {x : Nat → Nat → Nat} : ∀ (k i j : Nat), pick t w y x i k = some j → i ≤ j ∧ j < i + k := by
  intro k
  induction k with
  | zero => intro i j z; cases z
  | succ k ih =>
    intro i j z
    rw [pick] at z
    split at z
    · cases z; omega
    · have := ih (i + 1) j z; omega
section
variable {X : Cx} {h : HF} {a c n : Nat} {t : Int32} {f : Nat → Int32} {x : Nat → Nat → Nat}
theorem ma_other {h' : HF} (p : maAt h a t f) (hq : ∀ b, a ≤ b → b < a + 2 → h' b = h b) : maAt h' a t f := ⟨⟨p.1.1, (hq _ (by omega) (by omega)).trans p.1.2⟩, ⟨p.2.1, (hq _ (by omega) (by omega)).trans p.2.2⟩⟩
theorem l_takeFor (p : maAt h a t f) (hC : cutAt h c n x) {b e : Nat} {y : Nat → Nat} (hE : edAt h b y) (he : e < 8) (w : Bool) : ∀ (k i : Nat) (o6 o7 : Option Value), lok o6 = true → i + k = n →
    J X RX3 cX3_takeFor 8 1 none (fun r h' => r = none ∧ maAt h' a (tkP (pick t w y x i k) t) (tkF (pick t w y x i k) f e) ∧ offB h h' a (a + 2)) 3 [some (.ref a), some (.int (nI e)), some (.ref c), some (.ref b), some (.int (if w then 1 else 0)), some (.int (nI i)), o6, o7] [] h := by
  obtain ⟨m0, m1⟩ := id p
  obtain ⟨hc, ⟨g, hf, hfe⟩, hEs, hn⟩ := id hC
  have hb := hE.1
  have hbo := hE.2
  intro k
  induction k with
  | zero =>
    intro i o6 o7 l6 hi
    refine J_iload_5 dX3_takeFor_3 ?_
    refine J_aload_2 dX3_takeFor_5 ?_
    refine J_get dX3_takeFor_6 fl_X3_29 hc rfl ?_
    refine J_icmp_geN (tgt := 99) dX3_takeFor_9 (by decide) (by omega) (by omega) (fun _ => ?_) (fun c => absurd c (by omega))
    exact J_vret dX3_takeFor_99 rfl (⟨rfl, p, offB.rf⟩)
  | succ k ih =>
    intro i o6 o7 l6 hi
    have hi8 := hEs i (by omega)
    have hxi := hi8.1
    have b1 := hbo.2.2.2.1
    have b2 := hi8.2.2.2.2.1
    have hlk := c_elike (X := X) hE hi8
    have key : ∀ v7 : Int32, v7 = bI (isFr t i = true) → J X RX3 cX3_takeFor 8 1 none (fun r h' => r = none ∧ maAt h' a (tkP (pick t w y x i (k + 1)) t) (tkF (pick t w y x i (k + 1)) f e) ∧ offB h h' a (a + 2)) 38 [some (.ref a), some (.int (nI e)), some (.ref c), some (.ref b), some (.int (if w then 1 else 0)), some (.int (nI i)), some (.ref (c + 2 + i)), o7] [.int v7] h := by
      intro v7 hv7
      rw [hv7]
      have yes : fits8 t w y (x i) i = true → J X RX3 cX3_takeFor 8 1 none (fun r h' => r = none ∧ maAt h' a (tkP (pick t w y x i (k + 1)) t) (tkF (pick t w y x i (k + 1)) f e) ∧ offB h h' a (a + 2)) 71 [some (.ref a), some (.int (nI e)), some (.ref c), some (.ref b), some (.int (if w then 1 else 0)), some (.int (nI i)), some (.ref (c + 2 + i)), some (.int (bI (isFr t i = true)))] [] h := by
        intro z
        rw [show pick t w y x i (k + 1) = some i from if_pos z]
        refine J_aload_0 dX3_takeFor_71 ?_
        refine J_get dX3_takeFor_72 fl_X3_9 m0 rfl ?_
        refine J_iload_1 dX3_takeFor_75 ?_
        refine J_iload_5 dX3_takeFor_76 ?_
        refine J_iast dX3_takeFor_78 m1 rfl (by omega) (by omega) ?_
        refine J_aload_0 dX3_takeFor_79 ?_
        refine J_dup dX3_takeFor_80 rfl ?_
        refine J_get dX3_takeFor_81 fl_X3_21 (hAt_ne m0 (by omega)) rfl ?_
        refine J_iconst (v := nI 1) dX3_takeFor_84 (by decide) ?_
        refine J_iload_5 dX3_takeFor_85 ?_
        refine J_ishl dX3_takeFor_87 ?_
        refine J_ior dX3_takeFor_88 ?_
        refine J_put dX3_takeFor_89 fp_X3_21 (hAt_ne m0 (by omega)) (Nat.le_of_ble_eq_true rfl) rfl rfl ?_
        exact J_vret dX3_takeFor_92 rfl (⟨rfl, ⟨hAt_s m0.1, hAt_ne (hAt_s m1.1) (by omega)⟩, (offB.rf.hu (by omega) (by omega)).hu (by omega) (by omega)⟩)
      have no : ¬ fits8 t w y (x i) i = true → J X RX3 cX3_takeFor 8 1 none (fun r h' => r = none ∧ maAt h' a (tkP (pick t w y x i (k + 1)) t) (tkF (pick t w y x i (k + 1)) f e) ∧ offB h h' a (a + 2)) 93 [some (.ref a), some (.int (nI e)), some (.ref c), some (.ref b), some (.int (if w then 1 else 0)), some (.int (nI i)), some (.ref (c + 2 + i)), some (.int (bI (isFr t i = true)))] [] h := by
        intro z
        rw [show pick t w y x i (k + 1) = pick t w y x (i + 1) k from if_neg z]
        first | refine J_inc_5 dX3_takeFor_93 (Nat.le_of_ble_eq_true rfl) rfl ?_ | refine J_iinc_5 dX3_takeFor_93 rfl (Nat.le_of_ble_eq_true rfl) rfl ?_
        refine J_goto (tgt := 3) dX3_takeFor_96 (by decide) ?_
        exact ih (i + 1) _ _ rfl (by omega)
      cases w with
      | true =>
        refine J_istore_7 dX3_takeFor_38 (Nat.le_of_ble_eq_true rfl) rfl ?_
        refine J_iload_7 dX3_takeFor_40 ?_
        first | refine J_if_eqB (tgt := 93) dX3_takeFor_42 (by decide) (fun c42 => ?_) (fun c42 => ?_) | refine J_if_eqN (tgt := 93) dX3_takeFor_42 (by decide) (by omega) (fun c42 => ?_) (fun c42 => ?_) | refine J_if_eq (tgt := 93) dX3_takeFor_42 (by decide) (fun c42 => ?_) (fun c42 => ?_)
        · exact no (by simp only [fits8, Bool.and_eq_true, Bool.or_eq_true, decide_eq_true_eq]; first | exact (fun z => c42 z.1) | exact (fun z => c51 (likes_iff.mp z.2.1)) | exact (fun z => z.2.2.elim (fun q => absurd q (by decide)) c68))
        · refine J_aload_3 dX3_takeFor_45 ?_
          refine J_aload_6 dX3_takeFor_46 ?_
          refine J_cV1i dX3_takeFor_48 jmX2_isLike mv_X3_42 hb rfl (Nat.le_of_ble_eq_true rfl) (by decide) (hlk) ?_
          first | refine J_if_eqB (tgt := 93) dX3_takeFor_51 (by decide) (fun c51 => ?_) (fun c51 => ?_) | refine J_if_eqN (tgt := 93) dX3_takeFor_51 (by decide) (by omega) (fun c51 => ?_) (fun c51 => ?_) | refine J_if_eq (tgt := 93) dX3_takeFor_51 (by decide) (fun c51 => ?_) (fun c51 => ?_)
          · exact no (by simp only [fits8, Bool.and_eq_true, Bool.or_eq_true, decide_eq_true_eq]; first | exact (fun z => c42 z.1) | exact (fun z => c51 (likes_iff.mp z.2.1)) | exact (fun z => z.2.2.elim (fun q => absurd q (by decide)) c68))
          · refine J_iload_4 dX3_takeFor_54 ?_
            refine J_if_eq (tgt := 71) dX3_takeFor_56 (by decide) (fun c => absurd c (by decide)) (fun _ => ?_)
            refine J_aload_3 dX3_takeFor_59 ?_
            refine J_get dX3_takeFor_60 fl_X3_48 hb rfl ?_
            refine J_aload_6 dX3_takeFor_63 ?_
            refine J_get dX3_takeFor_65 fl_X3_48 hxi rfl ?_
            first | refine J_icmp_neN (tgt := 93) dX3_takeFor_68 (by decide) (by omega) (by omega) (fun c68 => ?_) (fun c68 => ?_) | refine J_icmp_ne (tgt := 93) dX3_takeFor_68 (by decide) (fun c68 => ?_) (fun c68 => ?_)
            · exact no (by simp only [fits8, Bool.and_eq_true, Bool.or_eq_true, decide_eq_true_eq]; first | exact (fun z => c42 z.1) | exact (fun z => c51 (likes_iff.mp z.2.1)) | exact (fun z => z.2.2.elim (fun q => absurd q (by decide)) c68))
            · exact yes (by simp only [fits8, Bool.and_eq_true, Bool.or_eq_true, decide_eq_true_eq]; exact ⟨c42, likes_iff.mpr c51, Or.inr c68⟩)
      | false =>
        refine J_istore_7 dX3_takeFor_38 (Nat.le_of_ble_eq_true rfl) rfl ?_
        refine J_iload_7 dX3_takeFor_40 ?_
        first | refine J_if_eqB (tgt := 93) dX3_takeFor_42 (by decide) (fun c42 => ?_) (fun c42 => ?_) | refine J_if_eqN (tgt := 93) dX3_takeFor_42 (by decide) (by omega) (fun c42 => ?_) (fun c42 => ?_) | refine J_if_eq (tgt := 93) dX3_takeFor_42 (by decide) (fun c42 => ?_) (fun c42 => ?_)
        · exact no (by simp only [fits8, Bool.and_eq_true, Bool.or_eq_true, decide_eq_true_eq]; first | exact (fun z => c42 z.1) | exact (fun z => c51 (likes_iff.mp z.2.1)))
        · refine J_aload_3 dX3_takeFor_45 ?_
          refine J_aload_6 dX3_takeFor_46 ?_
          refine J_cV1i dX3_takeFor_48 jmX2_isLike mv_X3_42 hb rfl (Nat.le_of_ble_eq_true rfl) (by decide) (hlk) ?_
          first | refine J_if_eqB (tgt := 93) dX3_takeFor_51 (by decide) (fun c51 => ?_) (fun c51 => ?_) | refine J_if_eqN (tgt := 93) dX3_takeFor_51 (by decide) (by omega) (fun c51 => ?_) (fun c51 => ?_) | refine J_if_eq (tgt := 93) dX3_takeFor_51 (by decide) (fun c51 => ?_) (fun c51 => ?_)
          · exact no (by simp only [fits8, Bool.and_eq_true, Bool.or_eq_true, decide_eq_true_eq]; first | exact (fun z => c42 z.1) | exact (fun z => c51 (likes_iff.mp z.2.1)))
          · refine J_iload_4 dX3_takeFor_54 ?_
            refine J_if_eq (tgt := 71) dX3_takeFor_56 (by decide) (fun _ => ?_) (fun c => absurd (by decide) c)
            exact yes (by simp only [fits8, Bool.and_eq_true, Bool.or_eq_true, decide_eq_true_eq]; exact ⟨c42, likes_iff.mpr c51, Or.inl rfl⟩)
    refine J_iload_5 dX3_takeFor_3 ?_
    refine J_aload_2 dX3_takeFor_5 ?_
    refine J_get dX3_takeFor_6 fl_X3_29 hc rfl ?_
    refine J_icmp_geN (tgt := 99) dX3_takeFor_9 (by decide) (by omega) (by omega) (fun c => absurd c (by omega)) (fun _ => ?_)
    refine J_aload_2 dX3_takeFor_12 ?_
    refine J_get dX3_takeFor_13 fl_X3_34 hc rfl ?_
    refine J_iload_5 dX3_takeFor_16 ?_
    refine J_aald dX3_takeFor_18 hf ⟨_, rfl⟩ rfl (by omega) (by omega) (hfe i (by omega)) ?_
    refine J_astore_6 dX3_takeFor_19 (Nat.le_of_ble_eq_true rfl) rfl ?_
    refine J_aload_0 dX3_takeFor_21 ?_
    refine J_get dX3_takeFor_22 fl_X3_21 m0 rfl ?_
    refine J_iload_5 dX3_takeFor_25 ?_
    refine J_ishr dX3_takeFor_27 ?_
    refine J_iconst (v := nI 1) dX3_takeFor_28 (by decide) ?_
    refine J_iand dX3_takeFor_29 ?_
    refine J_if_ne (tgt := 37) dX3_takeFor_30 (by decide) (fun c30 => ?_) (fun c30 => ?_)
    · refine J_iconst (v := nI 0) dX3_takeFor_37 (by decide) ?_
      exact key _ (by first | exact (bI_t (by simp only [isFr, decide_eq_true_eq]; exact c30)).symm | exact (bI_f (by simp only [isFr, decide_eq_true_eq]; exact c30)).symm)
    · refine J_iconst (v := nI 1) dX3_takeFor_33 (by decide) ?_
      refine J_goto (tgt := 38) dX3_takeFor_34 (by decide) ?_
      exact key _ (by first | exact (bI_t (by simp only [isFr, decide_eq_true_eq]; exact c30)).symm | exact (bI_f (by simp only [isFr, decide_eq_true_eq]; exact c30)).symm)
theorem c_takeFor (p : maAt h a t f) (hC : cutAt h c n x) {b e : Nat} {y : Nat → Nat} (hE : edAt h b y) (he : e < 8) (w : Bool) : Ct X mX3_takeFor 1 [.ref a, .int (nI e), .ref c, .ref b, .int (if w then 1 else 0)] h (fun r h' => r = none ∧ maAt h' a (tkP (pick t w y x 0 n) t) (tkF (pick t w y x 0 n) f e) ∧ offB h h' a (a + 2)) := by
  refine Ct_of jmX3_takeFor [some (.ref a), some (.int (nI e)), some (.ref c), some (.ref b), some (.int (if w then 1 else 0)), none, none, none] (Nat.le_of_ble_eq_true rfl) rfl ?_
  show J X RX3 cX3_takeFor 8 _ none _ 0 _ _ _
  refine J_iconst (v := nI 0) dX3_takeFor_0 (by decide) ?_
  refine J_istore_5 dX3_takeFor_1 (Nat.le_of_ble_eq_true rfl) rfl ?_
  exact l_takeFor p hC hE he w n 0 none none rfl (by omega)
variable {c2 n2 : Nat} {y : Nat → Nat → Nat}
theorem l_takeEach (hd1 : c + 10 ≤ a ∨ a + 2 ≤ c) (hd2 : c2 + 10 ≤ a ∨ a + 2 ≤ c2) (w : Bool) : ∀ (k e : Nat) (h1 : HF) (t : Int32) (f : Nat → Int32), e + k = n2 → maAt h1 a t f → cutAt h1 c n x → cutAt h1 c2 n2 y → offB h h1 a (a + 2) →
    J X RX3 cX3_takeEach 5 2 none (fun r h' => r = none ∧ maAt h' a (pas w x y n e k (t, f)).1 (pas w x y n e k (t, f)).2 ∧ offB h h' a (a + 2)) 3 [some (.ref a), some (.ref c), some (.ref c2), some (.int (if w then 1 else 0)), some (.int (nI e))] [] h1 := by
  intro k
  induction k with
  | zero =>
    intro e h1 t f he p hC hC2 ho
    have hc2 := hC2.1
    have hn2 := hC2.2.2.2
    refine J_iload_4 dX3_takeEach_3 ?_
    refine J_aload_2 dX3_takeEach_5 ?_
    refine J_get dX3_takeEach_6 fl_X3_29 hc2 rfl ?_
    refine J_icmp_geN (tgt := 44) dX3_takeEach_9 (by decide) (by omega) (by omega) (fun _ => ?_) (fun c => absurd c (by omega))
    exact J_vret dX3_takeEach_44 rfl (⟨rfl, p, ho⟩)
  | succ k ih =>
    intro e h1 t f he p hC hC2 ho
    obtain ⟨m0, m1⟩ := id p
    obtain ⟨hc2, ⟨g2, hf2, hfe2⟩, hE2, hn2⟩ := id hC2
    by_cases hq : f e = -1
    · rw [show pas w x y n e (k + 1) (t, f) = pas w x y n (e + 1) k (tkP (pick t w (y e) x 0 n) t, tkF (pick t w (y e) x 0 n) f e) from by rw [pas, if_pos hq]]
      refine J_iload_4 dX3_takeEach_3 ?_
      refine J_aload_2 dX3_takeEach_5 ?_
      refine J_get dX3_takeEach_6 fl_X3_29 hc2 rfl ?_
      refine J_icmp_geN (tgt := 44) dX3_takeEach_9 (by decide) (by omega) (by omega) (fun c => absurd c (by omega)) (fun _ => ?_)
      refine J_aload_0 dX3_takeEach_12 ?_
      refine J_get dX3_takeEach_13 fl_X3_9 m0 rfl ?_
      refine J_iload_4 dX3_takeEach_16 ?_
      refine J_iald dX3_takeEach_18 m1 rfl (by omega) (by omega) ?_
      refine J_iconst (v := -1) dX3_takeEach_19 (by decide) ?_
      refine J_icmp_ne (tgt := 38) dX3_takeEach_20 (by decide) (fun c => absurd c (fun z => z hq)) (fun _ => ?_)
      refine J_aload_0 dX3_takeEach_23 ?_
      refine J_iload_4 dX3_takeEach_24 ?_
      refine J_aload_1 dX3_takeEach_26 ?_
      refine J_aload_2 dX3_takeEach_27 ?_
      refine J_get dX3_takeEach_28 fl_X3_34 hc2 rfl ?_
      refine J_iload_4 dX3_takeEach_31 ?_
      refine J_aald dX3_takeEach_33 hf2 ⟨_, rfl⟩ rfl (by omega) (by omega) (hfe2 e (by omega)) ?_
      refine J_iload_3 dX3_takeEach_34 ?_
      refine J_cV4 dX3_takeEach_35 jmX3_takeFor mv_X3_38 m0 rfl (Nat.le_of_ble_eq_true rfl) (by decide) (c_takeFor p hC (hE2 e (by omega)) (by omega) w) (fun r h' q => ?_)
      obtain ⟨rfl, p2, o2⟩ := q
      first | refine J_inc_4 dX3_takeEach_38 (Nat.le_of_ble_eq_true rfl) rfl ?_ | refine J_iinc_4 dX3_takeEach_38 rfl (Nat.le_of_ble_eq_true rfl) rfl ?_
      refine J_goto (tgt := 3) dX3_takeEach_41 (by decide) ?_
      exact ih (e + 1) _ _ _ (by omega) p2 (cut_other hC (fun b l u => o2 b (by omega))) (cut_other hC2 (fun b l u => o2 b (by omega))) (ho.tr o2)
    · rw [show pas w x y n e (k + 1) (t, f) = pas w x y n (e + 1) k (t, f) from by rw [pas, if_neg hq]]
      refine J_iload_4 dX3_takeEach_3 ?_
      refine J_aload_2 dX3_takeEach_5 ?_
      refine J_get dX3_takeEach_6 fl_X3_29 hc2 rfl ?_
      refine J_icmp_geN (tgt := 44) dX3_takeEach_9 (by decide) (by omega) (by omega) (fun c => absurd c (by omega)) (fun _ => ?_)
      refine J_aload_0 dX3_takeEach_12 ?_
      refine J_get dX3_takeEach_13 fl_X3_9 m0 rfl ?_
      refine J_iload_4 dX3_takeEach_16 ?_
      refine J_iald dX3_takeEach_18 m1 rfl (by omega) (by omega) ?_
      refine J_iconst (v := -1) dX3_takeEach_19 (by decide) ?_
      refine J_icmp_ne (tgt := 38) dX3_takeEach_20 (by decide) (fun _ => ?_) (fun c => absurd c hq)
      first | refine J_inc_4 dX3_takeEach_38 (Nat.le_of_ble_eq_true rfl) rfl ?_ | refine J_iinc_4 dX3_takeEach_38 rfl (Nat.le_of_ble_eq_true rfl) rfl ?_
      refine J_goto (tgt := 3) dX3_takeEach_41 (by decide) ?_
      exact ih (e + 1) _ _ _ (by omega) p hC hC2 ho
theorem c_takeEach (hd1 : c + 10 ≤ a ∨ a + 2 ≤ c) (hd2 : c2 + 10 ≤ a ∨ a + 2 ≤ c2) (w : Bool) (p : maAt h a t f) (hC : cutAt h c n x) (hC2 : cutAt h c2 n2 y) : Ct X mX3_takeEach 2 [.ref a, .ref c, .ref c2, .int (if w then 1 else 0)] h (fun r h' => r = none ∧ maAt h' a (pas w x y n 0 n2 (t, f)).1 (pas w x y n 0 n2 (t, f)).2 ∧ offB h h' a (a + 2)) := by
  refine Ct_of jmX3_takeEach [some (.ref a), some (.ref c), some (.ref c2), some (.int (if w then 1 else 0)), none] (Nat.le_of_ble_eq_true rfl) rfl ?_
  show J X RX3 cX3_takeEach 5 _ none _ 0 _ _ _
  refine J_iconst (v := nI 0) dX3_takeEach_0 (by decide) ?_
  refine J_istore_4 dX3_takeEach_1 (Nat.le_of_ble_eq_true rfl) rfl ?_
  exact l_takeEach hd1 hd2 w n2 0 h t f (by omega) p hC hC2 offB.rf
/-- both passes -/
def prs (x y : Nat → Nat → Nat) (n n2 : Nat) (f : Nat → Int32) : Int32 × (Nat → Int32) := pas false x y n 0 n2 (pas true x y n 0 n2 (0, f))
theorem c_pair (hd1 : c + 10 ≤ a ∨ a + 2 ≤ c) (hd2 : c2 + 10 ≤ a ∨ a + 2 ≤ c2) (p : maAt h a t f) (hC : cutAt h c n x) (hC2 : cutAt h c2 n2 y) : Ct X mX3_pair 3 [.ref a, .ref c, .ref c2] h (fun r h' => r = none ∧ (∃ f0, (∀ j, j < 8 → f0 j = -1) ∧ maAt h' a (prs x y n n2 f0).1 (prs x y n n2 f0).2) ∧ offB h h' a (a + 2)) := by
  obtain ⟨m0, m1⟩ := id p
  refine Ct_of jmX3_pair [some (.ref a), some (.ref c), some (.ref c2)] (Nat.le_of_ble_eq_true rfl) rfl ?_
  show J X RX3 cX3_pair 3 _ none _ 0 _ _ _
  refine J_aload_0 dX3_pair_0 ?_
  refine J_get dX3_pair_1 fl_X3_9 m0 rfl ?_
  refine J_iconst (v := -1) dX3_pair_4 (by decide) ?_
  refine J_cS2 dX3_pair_5 jmJ7_fill_53178 ms_X3_15 (Nat.le_of_ble_eq_true rfl) (by decide) (c_fill (by decide) m1) (fun r h' q => ?_)
  obtain ⟨rfl, ⟨f0, q1, q2⟩, o2⟩ := q
  refine J_aload_0 dX3_pair_8 ?_
  refine J_iconst (v := nI 0) dX3_pair_9 (by decide) ?_
  refine J_put dX3_pair_10 fp_X3_21 (hAt_off m0 o2 (by omega)) (Nat.le_of_ble_eq_true rfl) rfl rfl ?_
  have o3 : offB h (hu h' a (oB 2 ([.ref (a + 1), .int t].set 1 (.int (nI 0))))) a (a + 2) := (o2.wide (by omega) (by omega)).hu (by omega) (by omega)
  have p3 : maAt (hu h' a (oB 2 ([.ref (a + 1), .int t].set 1 (.int (nI 0))))) a 0 f0 := ⟨hAt_s m0.1, hAt_ne q1 (by omega)⟩
  generalize hu h' a (oB 2 ([.ref (a + 1), .int t].set 1 (.int (nI 0)))) = h3 at o3 p3 ⊢
  refine J_aload_0 dX3_pair_13 ?_
  refine J_aload_1 dX3_pair_14 ?_
  refine J_aload_2 dX3_pair_15 ?_
  refine J_iconst (v := nI 1) dX3_pair_16 (by decide) ?_
  refine J_cV3 dX3_pair_17 jmX3_takeEach mv_X3_25 p3.1 rfl (Nat.le_of_ble_eq_true rfl) (by decide) (c_takeEach hd1 hd2 true p3 (cut_other hC (fun b l u => o3 b (by omega))) (cut_other hC2 (fun b l u => o3 b (by omega)))) (fun r h' q => ?_)
  obtain ⟨rfl, p4, o4⟩ := q
  have o4 := o3.tr o4
  refine J_aload_0 dX3_pair_20 ?_
  refine J_aload_1 dX3_pair_21 ?_
  refine J_aload_2 dX3_pair_22 ?_
  refine J_iconst (v := nI 0) dX3_pair_23 (by decide) ?_
  refine J_cV3 dX3_pair_24 jmX3_takeEach mv_X3_25 p4.1 rfl (Nat.le_of_ble_eq_true rfl) (by decide) (c_takeEach hd1 hd2 false p4 (cut_other hC (fun b l u => o4 b (by omega))) (cut_other hC2 (fun b l u => o4 b (by omega)))) (fun r h' q => ?_)
  obtain ⟨rfl, p5, o5⟩ := q
  exact J_vret dX3_pair_27 rfl (⟨rfl, ⟨f0, q2, p5⟩, o4.tr o5⟩)
end
