/-! EDIT: its five numbers are naturals x 0 (reel), x 1 (in), x 2 (many), x 3 (p), x 4 (q) -/
def edOk (x : Nat → Nat) : Prop := x 0 < 6 ∧ x 1 < 200000 ∧ 1 ≤ x 2 ∧ x 2 ≤ 500 ∧ x 3 ≤ 6 ∧ 1 ≤ x 4 ∧ x 4 ≤ 6
def edC (x : Nat → Nat) : AE := oB 1 [.int (nI (x 0)), .int (nI (x 1)), .int (nI (x 2)), .int (nI (x 3)), .int (nI (x 4))]
def edAt (h : HF) (a : Nat) (x : Nat → Nat) : Prop := hAt h a (oB 1 [.int (nI (x 0)), .int (nI (x 1)), .int (nI (x 2)), .int (nI (x 3)), .int (nI (x 4))]) ∧ edOk x
/-- the frame of the REEL that frame k shows -/
def fr (x : Nat → Nat) (k : Nat) : Nat := x 1 + k * x 3 / x 4
def fl_ (x : Nat → Nat) : Nat := fr x (x 2 - 1)
theorem fr_le {x : Nat → Nat} (ok : edOk x) {k : Nat} (hk : k ≤ 4000) : fr x k ≤ 223999 := by
  obtain ⟨o0, o1, o2, o3, o4, o5, o6⟩ := ok
  have hm : k * x 3 ≤ 24000 := Nat.mul_le_mul hk o4
  have hd : k * x 3 / x 4 ≤ k * x 3 := Nat.div_le_self _ _
  unfold fr
  omega
theorem fr_ge {x : Nat → Nat} {k : Nat} : x 1 ≤ fr x k := Nat.le_add_right _ _
theorem fr_0 {x : Nat → Nat} : fr x 0 = x 1 := by simp [fr]
theorem fr_mono {x : Nat → Nat} {j k : Nat} (h : j ≤ k) : fr x j ≤ fr x k := Nat.add_le_add_left (Nat.div_le_div_right (Nat.mul_le_mul_right _ h)) _
theorem last_le {x : Nat → Nat} (ok : edOk x) : fl_ x ≤ 202993 := by
  obtain ⟨o0, o1, o2, o3, o4, o5, o6⟩ := ok
  have hm : (x 2 - 1) * x 3 ≤ 499 * 6 := Nat.mul_le_mul (by omega) o4
  have hd : (x 2 - 1) * x 3 / x 4 ≤ (x 2 - 1) * x 3 := Nat.div_le_self _ _
  unfold fl_ fr
  omega
section
variable {X : Cx} {h : HF}
theorem c_isBelow {v w : Int32} : CtI X mX6_isBelow 0 [.int v, .int w] h (bI (0 ≤ v ∧ v < w)) := by
  refine Ct_of jmX6_isBelow [some (.int v), some (.int w)] (Nat.le_of_ble_eq_true rfl) rfl ?_
  show J X RX6 cX6_isBelow 2 _ (some .boolean) _ 0 _ _ _
  refine J_iload_0 dX6_isBelow_0 ?_
  refine J_if_lt (tgt := 13) dX6_isBelow_1 (by decide) (fun c1 => ?_) (fun c1 => ?_)
  · have e : bI (0 ≤ v ∧ v < w) = 0 := bI_f (by first | exact (fun z => absurd z.2 (Int32.not_lt.mpr c6)) | exact (fun z => absurd z.1 (Int32.not_le.mpr c1)))
    refine J_iconst (v := nI 0) dX6_isBelow_13 (by decide) ?_
    exact J_zret dX6_isBelow_14 rfl (by first | exact Or.inl rfl | exact Or.inr rfl | exact bI_01 _) (⟨by rw [e]; rfl, rfl⟩)
  · refine J_iload_0 dX6_isBelow_4 ?_
    refine J_iload_1 dX6_isBelow_5 ?_
    refine J_icmp_ge (tgt := 13) dX6_isBelow_6 (by decide) (fun c6 => ?_) (fun c6 => ?_)
    · have e : bI (0 ≤ v ∧ v < w) = 0 := bI_f (by first | exact (fun z => absurd z.2 (Int32.not_lt.mpr c6)) | exact (fun z => absurd z.1 (Int32.not_le.mpr c1)))
      refine J_iconst (v := nI 0) dX6_isBelow_13 (by decide) ?_
      exact J_zret dX6_isBelow_14 rfl (by first | exact Or.inl rfl | exact Or.inr rfl | exact bI_01 _) (⟨by rw [e]; rfl, rfl⟩)
    · refine J_iconst (v := nI 1) dX6_isBelow_9 (by decide) ?_
      have e := bI_t (P := 0 ≤ v ∧ v < w) ⟨Int32.not_lt.mp c1, Int32.not_le.mp c6⟩
      refine J_goto (tgt := 14) dX6_isBelow_10 (by decide) ?_
      exact J_zret dX6_isBelow_14 rfl (by first | exact Or.inl rfl | exact Or.inr rfl | exact bI_01 _) (⟨by rw [e]; rfl, rfl⟩)
theorem c_frameAt {a : Nat} {x : Nat → Nat} {k : Nat} (hE : edAt h a x) (hk : k ≤ 4000) : CtI X mX2_frameAt 0 [.ref a, .int (nI k)] h (nI (fr x k)) := by
  obtain ⟨hc, o0, o1, o2, o3, o4, o5, o6⟩ := hE
  have hm : k * x 3 ≤ 24000 := Nat.mul_le_mul hk o4
  refine Ct_of jmX2_frameAt [some (.ref a), some (.int (nI k))] (Nat.le_of_ble_eq_true rfl) rfl ?_
  show J X RX2 cX2_frameAt 2 _ (some .int) _ 0 _ _ _
  refine J_aload_0 dX2_frameAt_0 ?_
  refine J_get dX2_frameAt_1 fl_X2_15 hc rfl ?_
  refine J_if_neN (tgt := 14) dX2_frameAt_4 (by decide) (by omega) (fun _ => ?_) (fun c => absurd c (by omega))
  refine J_aload_0 dX2_frameAt_14 ?_
  refine J_get dX2_frameAt_15 fl_X2_18 hc rfl ?_
  refine J_iload_1 dX2_frameAt_18 ?_
  refine J_aload_0 dX2_frameAt_19 ?_
  refine J_get dX2_frameAt_20 fl_X2_21 hc rfl ?_
  first | refine J_imulN dX2_frameAt_23 ?_ | refine J_imul dX2_frameAt_23 ?_
  refine J_aload_0 dX2_frameAt_24 ?_
  refine J_get dX2_frameAt_25 fl_X2_15 hc rfl ?_
  refine J_idivN dX2_frameAt_28 (by omega) (by omega) (by omega) ?_
  first | refine J_iaddN dX2_frameAt_29 ?_ | refine J_iadd dX2_frameAt_29 ?_
  exact J_iret dX2_frameAt_30 rfl (⟨rfl, rfl⟩)
theorem c_first {a : Nat} {x : Nat → Nat} (hE : edAt h a x) : CtI X mX2_first 1 [.ref a] h (nI (x 1)) := by
  have hc := hE.1
  have e := c_frameAt (X := X) (k := 0) hE (by omega)
  rw [fr_0] at e
  refine Ct_of jmX2_first [some (.ref a)] (Nat.le_of_ble_eq_true rfl) rfl ?_
  show J X RX2 cX2_first 1 _ (some .int) _ 0 _ _ _
  refine J_aload_0 dX2_first_0 ?_
  refine J_iconst (v := nI 0) dX2_first_1 (by decide) ?_
  refine J_cV1i dX2_first_2 jmX2_frameAt mv_X2_24 hc rfl (Nat.le_of_ble_eq_true rfl) (by decide) (e) ?_
  exact J_iret dX2_first_5 rfl (⟨rfl, rfl⟩)
theorem c_last {a : Nat} {x : Nat → Nat} (hE : edAt h a x) : CtI X mX2_last 1 [.ref a] h (nI (fl_ x)) := by
  obtain ⟨hc, o0, o1, o2, o3, o4, o5, o6⟩ := id hE
  refine Ct_of jmX2_last [some (.ref a)] (Nat.le_of_ble_eq_true rfl) rfl ?_
  show J X RX2 cX2_last 1 _ (some .int) _ 0 _ _ _
  refine J_aload_0 dX2_last_0 ?_
  refine J_aload_0 dX2_last_1 ?_
  refine J_get dX2_last_2 fl_X2_9 hc rfl ?_
  refine J_iconst (v := nI 1) dX2_last_5 (by decide) ?_
  first | refine J_isubN dX2_last_6 (by omega) ?_ | refine J_isub dX2_last_6 ?_
  refine J_cV1i dX2_last_7 jmX2_frameAt mv_X2_24 hc rfl (Nat.le_of_ble_eq_true rfl) (by decide) (c_frameAt hE (by omega)) ?_
  exact J_iret dX2_last_10 rfl (⟨rfl, rfl⟩)
theorem c_reach {a : Nat} {x : Nat → Nat} (hE : edAt h a x) : CtI X mX2_reach 2 [.ref a] h (nI (fl_ x - x 1 + 1)) := by
  have hc := hE.1
  have hg : x 1 ≤ fl_ x := fr_ge
  refine Ct_of jmX2_reach [some (.ref a)] (Nat.le_of_ble_eq_true rfl) rfl ?_
  show J X RX2 cX2_reach 1 _ (some .int) _ 0 _ _ _
  refine J_aload_0 dX2_reach_0 ?_
  refine J_cV0i dX2_reach_1 jmX2_last mv_X2_28 hc rfl (Nat.le_of_ble_eq_true rfl) (by decide) (c_last hE) ?_
  refine J_aload_0 dX2_reach_4 ?_
  refine J_cV0i dX2_reach_5 jmX2_first mv_X2_32 hc rfl (Nat.le_of_ble_eq_true rfl) (by decide) (c_first hE) ?_
  first | refine J_isubN dX2_reach_8 (by omega) ?_ | refine J_isub dX2_reach_8 ?_
  refine J_iconst (v := nI 1) dX2_reach_9 (by decide) ?_
  first | refine J_iaddN dX2_reach_10 ?_ | refine J_iadd dX2_reach_10 ?_
  exact J_iret dX2_reach_11 rfl (⟨rfl, rfl⟩)
def eddiff (x : Nat → Nat) : Nat := if x 3 ≤ x 4 then fl_ x - x 1 + 1 else x 2
theorem c_different {a : Nat} {x : Nat → Nat} (hE : edAt h a x) : CtI X mX2_different 3 [.ref a] h (nI (eddiff x)) := by
  obtain ⟨hc, o0, o1, o2, o3, o4, o5, o6⟩ := id hE
  refine Ct_of jmX2_different [some (.ref a)] (Nat.le_of_ble_eq_true rfl) rfl ?_
  show J X RX2 cX2_different 1 _ (some .int) _ 0 _ _ _
  refine J_aload_0 dX2_different_0 ?_
  refine J_get dX2_different_1 fl_X2_21 hc rfl ?_
  refine J_aload_0 dX2_different_4 ?_
  refine J_get dX2_different_5 fl_X2_15 hc rfl ?_
  first | refine J_icmp_gtN (tgt := 18) dX2_different_8 (by decide) (by omega) (by omega) (fun c8 => ?_) (fun c8 => ?_) | refine J_icmp_gt (tgt := 18) dX2_different_8 (by decide) (fun c8 => ?_) (fun c8 => ?_)
  · refine J_aload_0 dX2_different_18 ?_
    refine J_get dX2_different_19 fl_X2_9 hc rfl ?_
    exact J_iret dX2_different_22 rfl (⟨by unfold eddiff; first | rw [if_pos c8] | rw [if_neg (Nat.not_le.mpr c8)], rfl⟩)
  · refine J_aload_0 dX2_different_11 ?_
    refine J_cV0i dX2_different_12 jmX2_reach mv_X2_35 hc rfl (Nat.le_of_ble_eq_true rfl) (by decide) (c_reach hE) ?_
    refine J_goto (tgt := 22) dX2_different_15 (by decide) ?_
    exact J_iret dX2_different_22 rfl (⟨by unfold eddiff; first | rw [if_pos c8] | rw [if_neg (Nat.not_le.mpr c8)], rfl⟩)
/-- the first frame at or behind the one where the REEL has come by n frames; many if it never has -/
def fal (x : Nat → Nat) (n : Nat) : Nat := if n = 0 then 0 else if x 3 = 0 then x 2 else if (n * x 4 + x 3 - 1) / x 3 < x 2 then (n * x 4 + x 3 - 1) / x 3 else x 2
theorem fal_le {x : Nat → Nat} {n : Nat} : fal x n ≤ x 2 := by
  unfold fal
  split
  · exact Nat.zero_le _
  · split
    · exact Nat.le_refl _
    · split <;> omega
theorem c_falNeg {a : Nat} {v : Int32} (hv : v ≤ 0) : CtI X mX2_firstAtLeast 0 [.ref a, .int v] h 0 := by
  refine Ct_of jmX2_firstAtLeast [some (.ref a), some (.int v), none] (Nat.le_of_ble_eq_true rfl) rfl ?_
  show J X RX2 cX2_firstAtLeast 3 _ (some .int) _ 0 _ _ _
  refine J_iload_1 dX2_firstAtLeast_0 ?_
  refine J_if_gt (tgt := 6) dX2_firstAtLeast_1 (by decide) (fun c => absurd c (Int32.not_lt.mpr hv)) (fun _ => ?_)
  refine J_iconst (v := nI 0) dX2_firstAtLeast_4 (by decide) ?_
  exact J_iret dX2_firstAtLeast_5 rfl (⟨rfl, rfl⟩)
theorem c_fal {a : Nat} {x : Nat → Nat} {n : Nat} (hE : edAt h a x) (hn : n ≤ 300000) : CtI X mX2_firstAtLeast 0 [.ref a, .int (nI n)] h (nI (fal x n)) := by
  obtain ⟨hc, o0, o1, o2, o3, o4, o5, o6⟩ := id hE
  have hm : n * x 4 ≤ 300000 * 6 := Nat.mul_le_mul hn o6
  have hd : (n * x 4 + x 3 - 1) / x 3 ≤ n * x 4 + x 3 - 1 := Nat.div_le_self _ _
  refine Ct_of jmX2_firstAtLeast [some (.ref a), some (.int (nI n)), none] (Nat.le_of_ble_eq_true rfl) rfl ?_
  show J X RX2 cX2_firstAtLeast 3 _ (some .int) _ 0 _ _ _
  refine J_iload_1 dX2_firstAtLeast_0 ?_
  first | refine J_if_gtN (tgt := 6) dX2_firstAtLeast_1 (by decide) (by omega) (fun c1 => ?_) (fun c1 => ?_) | refine J_if_gt (tgt := 6) dX2_firstAtLeast_1 (by decide) (fun c1 => ?_) (fun c1 => ?_)
  · refine J_aload_0 dX2_firstAtLeast_6 ?_
    refine J_get dX2_firstAtLeast_7 fl_X2_21 hc rfl ?_
    first | refine J_if_neB (tgt := 20) dX2_firstAtLeast_10 (by decide) (fun c10 => ?_) (fun c10 => ?_) | refine J_if_neN (tgt := 20) dX2_firstAtLeast_10 (by decide) (by omega) (fun c10 => ?_) (fun c10 => ?_) | refine J_if_ne (tgt := 20) dX2_firstAtLeast_10 (by decide) (fun c10 => ?_) (fun c10 => ?_)
    · refine J_iload_1 dX2_firstAtLeast_20 ?_
      refine J_aload_0 dX2_firstAtLeast_21 ?_
      refine J_get dX2_firstAtLeast_22 fl_X2_15 hc rfl ?_
      first | refine J_imulN dX2_firstAtLeast_25 ?_ | refine J_imul dX2_firstAtLeast_25 ?_
      refine J_aload_0 dX2_firstAtLeast_26 ?_
      refine J_get dX2_firstAtLeast_27 fl_X2_21 hc rfl ?_
      first | refine J_iaddN dX2_firstAtLeast_30 ?_ | refine J_iadd dX2_firstAtLeast_30 ?_
      refine J_iconst (v := nI 1) dX2_firstAtLeast_31 (by decide) ?_
      first | refine J_isubN dX2_firstAtLeast_32 (by omega) ?_ | refine J_isub dX2_firstAtLeast_32 ?_
      refine J_aload_0 dX2_firstAtLeast_33 ?_
      refine J_get dX2_firstAtLeast_34 fl_X2_21 hc rfl ?_
      refine J_idivN dX2_firstAtLeast_37 (by omega) (by omega) (by omega) ?_
      have hn0 : ¬ n = 0 := by omega
      refine J_istore_2 dX2_firstAtLeast_38 (Nat.le_of_ble_eq_true rfl) rfl ?_
      refine J_iload_2 dX2_firstAtLeast_39 ?_
      refine J_aload_0 dX2_firstAtLeast_40 ?_
      refine J_get dX2_firstAtLeast_41 fl_X2_9 hc rfl ?_
      first | refine J_icmp_geN (tgt := 51) dX2_firstAtLeast_44 (by decide) (by omega) (by omega) (fun c44 => ?_) (fun c44 => ?_) | refine J_icmp_ge (tgt := 51) dX2_firstAtLeast_44 (by decide) (fun c44 => ?_) (fun c44 => ?_)
      · refine J_aload_0 dX2_firstAtLeast_51 ?_
        refine J_get dX2_firstAtLeast_52 fl_X2_9 hc rfl ?_
        exact J_iret dX2_firstAtLeast_55 rfl (⟨by unfold fal; rw [if_neg hn0]; first | rw [if_pos c10] | rw [if_neg (Nat.ne_of_gt c10), if_pos c44] | rw [if_neg (Nat.ne_of_gt c10), if_neg (Nat.not_lt.mpr c44)], rfl⟩)
      · refine J_iload_2 dX2_firstAtLeast_47 ?_
        refine J_goto (tgt := 55) dX2_firstAtLeast_48 (by decide) ?_
        exact J_iret dX2_firstAtLeast_55 rfl (⟨by unfold fal; rw [if_neg hn0]; first | rw [if_pos c10] | rw [if_neg (Nat.ne_of_gt c10), if_pos c44] | rw [if_neg (Nat.ne_of_gt c10), if_neg (Nat.not_lt.mpr c44)], rfl⟩)
    · refine J_aload_0 dX2_firstAtLeast_13 ?_
      refine J_get dX2_firstAtLeast_14 fl_X2_9 hc rfl ?_
      refine J_goto (tgt := 38) dX2_firstAtLeast_17 (by decide) ?_
      show J X RX2 cX2_firstAtLeast 3 0 (some .int) _ 38 _ [.int (nI (x 2))] _
      have hn0 : ¬ n = 0 := by omega
      refine J_istore_2 dX2_firstAtLeast_38 (Nat.le_of_ble_eq_true rfl) rfl ?_
      refine J_iload_2 dX2_firstAtLeast_39 ?_
      refine J_aload_0 dX2_firstAtLeast_40 ?_
      refine J_get dX2_firstAtLeast_41 fl_X2_9 hc rfl ?_
      first | refine J_icmp_geN (tgt := 51) dX2_firstAtLeast_44 (by decide) (by omega) (by omega) (fun c44 => ?_) (fun c44 => ?_) | refine J_icmp_ge (tgt := 51) dX2_firstAtLeast_44 (by decide) (fun c44 => ?_) (fun c44 => ?_)
      · refine J_aload_0 dX2_firstAtLeast_51 ?_
        refine J_get dX2_firstAtLeast_52 fl_X2_9 hc rfl ?_
        exact J_iret dX2_firstAtLeast_55 rfl (⟨by unfold fal; rw [if_neg hn0]; first | rw [if_pos c10] | rw [if_neg (Nat.ne_of_gt c10), if_pos c44] | rw [if_neg (Nat.ne_of_gt c10), if_neg (Nat.not_lt.mpr c44)], rfl⟩)
      · refine J_iload_2 dX2_firstAtLeast_47 ?_
        refine J_goto (tgt := 55) dX2_firstAtLeast_48 (by decide) ?_
        exact J_iret dX2_firstAtLeast_55 rfl (⟨by unfold fal; rw [if_neg hn0]; first | rw [if_pos c10] | rw [if_neg (Nat.ne_of_gt c10), if_pos c44] | rw [if_neg (Nat.ne_of_gt c10), if_neg (Nat.not_lt.mpr c44)], rfl⟩)
  · refine J_iconst (v := nI 0) dX2_firstAtLeast_4 (by decide) ?_
    exact J_iret dX2_firstAtLeast_5 rfl (⟨by unfold fal; rw [if_pos c1], rfl⟩)
end
