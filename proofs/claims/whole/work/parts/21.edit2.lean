/-! EDIT, the rest -/
theorem ceil_lt {n p k : Nat} (hp : 0 < p) : k < (n + p - 1) / p ↔ k * p < n := by
  rw [Nat.lt_div_iff_mul_lt hp]
  omega
theorem ceil_le {n p k : Nat} (hp : 0 < p) : (n + p - 1) / p ≤ k ↔ n ≤ k * p := by
  have := @ceil_lt n p k hp
  omega
theorem fal_mono {x : Nat → Nat} {m n : Nat} (h : m ≤ n) : fal x m ≤ fal x n := by
  unfold fal
  by_cases hm : m = 0
  · rw [if_pos hm]; exact Nat.zero_le _
  · have hn : ¬ n = 0 := by omega
    rw [if_neg hm, if_neg hn]
    by_cases h3 : x 3 = 0
    · rw [if_pos h3, if_pos h3]; exact Nat.le_refl _
    · rw [if_neg h3, if_neg h3]
      have e : (m * x 4 + x 3 - 1) / x 3 ≤ (n * x 4 + x 3 - 1) / x 3 := Nat.div_le_div_right (by have := Nat.mul_le_mul_right (x 4) h; omega)
      split <;> split <;> omega
/-- how often an EDIT shows frame f -/
def tm (x : Nat → Nat) (f : Nat) : Nat := if f < x 1 then 0 else fal x (f - x 1 + 1) - fal x (f - x 1)
/-- the first frame of the EDIT that shows frame f -/
def fs (x : Nat → Nat) (f : Nat) : Option Nat := if fal x (f - x 1) < x 2 ∧ fr x (fal x (f - x 1)) = f then some (fal x (f - x 1)) else none
def oN (o : Option Nat) : Int32 := match o with
  | none => -1
  | some e => nI e
theorem oN_ne {n : Nat} (h : n < 2 ^ 31) : ¬ nI n = -1 := by
  intro z
  have e := nI_toInt h
  rw [z] at e
  have e2 : (-1 : Int32).toInt = -1 := by decide
  omega
theorem oN_eq {o : Option Nat} {n : Nat} (h : n < 2 ^ 31) (ho : ∀ j, o = some j → j < 2 ^ 31) : oN o = nI n ↔ o = some n := by
  cases o with
  | none => exact ⟨fun z => absurd z.symm (oN_ne h), fun z => by cases z⟩
  | some j =>
    rw [oN, nI_eq (ho j rfl) h]
    exact ⟨fun z => by rw [z], fun z => Option.some.inj z⟩
theorem sub_le0 {a b : Nat} (h : a ≤ b) (hb : b < 2 ^ 30) : nI a - nI b ≤ 0 := by
  rw [Int32.le_iff_toInt_le, pk_sub_toInt (by omega) hb, Int32.toInt_zero]
  omega
section
variable {X : Cx} {h : HF}
theorem c_efs {a : Nat} {x : Nat → Nat} {f : Nat} (hE : edAt h a x) (hf : f < 300000) : CtI X mX2_firstShowing 1 [.ref a, .int (nI f)] h (oN (fs x f)) := by
  obtain ⟨hc, o0, o1, o2, o3, o4, o5, o6⟩ := id hE
  have hk := @fal_le x (f - x 1)
  have hfr := @fr_le x hE.2 (fal x (f - x 1)) (by omega)
  have hcall : ∀ v : Int32, v = nI f - nI (x 1) → CtI X mX2_firstAtLeast 0 [.ref a, .int v] h (nI (fal x (f - x 1))) := by
    intro v hv
    by_cases hx : f ≤ x 1
    · have e0 : f - x 1 = 0 := by omega
      have e1 : fal x (f - x 1) = 0 := by rw [e0]; rfl
      rw [e1]
      exact c_falNeg (by rw [hv]; exact sub_le0 hx (by omega))
    · rw [hv, pk_sub (by omega)]
      exact c_fal hE (by omega)
  refine Ct_of jmX2_firstShowing [some (.ref a), some (.int (nI f)), none] (Nat.le_of_ble_eq_true rfl) rfl ?_
  show J X RX2 cX2_firstShowing 3 _ (some .int) _ 0 _ _ _
  refine J_aload_0 dX2_firstShowing_0 ?_
  refine J_iload_1 dX2_firstShowing_1 ?_
  refine J_aload_0 dX2_firstShowing_2 ?_
  refine J_get dX2_firstShowing_3 fl_X2_18 hc rfl ?_
  refine J_isub dX2_firstShowing_6 ?_
  refine J_cV1i dX2_firstShowing_7 jmX2_firstAtLeast mv_X2_38 hc rfl (Nat.le_of_ble_eq_true rfl) (by decide) (hcall _ rfl) ?_
  refine J_istore_2 dX2_firstShowing_10 (Nat.le_of_ble_eq_true rfl) rfl ?_
  refine J_iload_2 dX2_firstShowing_11 ?_
  refine J_aload_0 dX2_firstShowing_12 ?_
  refine J_get dX2_firstShowing_13 fl_X2_9 hc rfl ?_
  first | refine J_icmp_geN (tgt := 32) dX2_firstShowing_16 (by decide) (by omega) (by omega) (fun c16 => ?_) (fun c16 => ?_) | refine J_icmp_ge (tgt := 32) dX2_firstShowing_16 (by decide) (fun c16 => ?_) (fun c16 => ?_)
  · have e : fs x f = none := if_neg (by first | exact (fun z => c25 z.2) | exact (fun z => absurd z.1 (Nat.not_lt.mpr c16)))
    refine J_iconst (v := -1) dX2_firstShowing_32 (by decide) ?_
    exact J_iret dX2_firstShowing_33 rfl (⟨by rw [e]; rfl, rfl⟩)
  · refine J_aload_0 dX2_firstShowing_19 ?_
    refine J_iload_2 dX2_firstShowing_20 ?_
    refine J_cV1i dX2_firstShowing_21 jmX2_frameAt mv_X2_24 hc rfl (Nat.le_of_ble_eq_true rfl) (by decide) (c_frameAt hE (by omega)) ?_
    refine J_iload_1 dX2_firstShowing_24 ?_
    first | refine J_icmp_neN (tgt := 32) dX2_firstShowing_25 (by decide) (by omega) (by omega) (fun c25 => ?_) (fun c25 => ?_) | refine J_icmp_ne (tgt := 32) dX2_firstShowing_25 (by decide) (fun c25 => ?_) (fun c25 => ?_)
    · have e : fs x f = none := if_neg (by first | exact (fun z => c25 z.2) | exact (fun z => absurd z.1 (Nat.not_lt.mpr c16)))
      refine J_iconst (v := -1) dX2_firstShowing_32 (by decide) ?_
      exact J_iret dX2_firstShowing_33 rfl (⟨by rw [e]; rfl, rfl⟩)
    · refine J_iload_2 dX2_firstShowing_28 ?_
      have e : fs x f = some (fal x (f - x 1)) := if_pos ⟨c16, c25⟩
      refine J_goto (tgt := 33) dX2_firstShowing_29 (by decide) ?_
      exact J_iret dX2_firstShowing_33 rfl (⟨by rw [e]; rfl, rfl⟩)
theorem c_etm {a : Nat} {x : Nat → Nat} {f : Nat} (hE : edAt h a x) (hf : f < 300000) : CtI X mX2_times 1 [.ref a, .int (nI f)] h (nI (tm x f)) := by
  obtain ⟨hc, o0, o1, o2, o3, o4, o5, o6⟩ := id hE
  have hk := @fal_mono x (f - x 1) (f - x 1 + 1) (by omega)
  refine Ct_of jmX2_times [some (.ref a), some (.int (nI f))] (Nat.le_of_ble_eq_true rfl) rfl ?_
  show J X RX2 cX2_times 2 _ (some .int) _ 0 _ _ _
  refine J_iload_1 dX2_times_0 ?_
  refine J_aload_0 dX2_times_1 ?_
  refine J_get dX2_times_2 fl_X2_18 hc rfl ?_
  first | refine J_icmp_geN (tgt := 12) dX2_times_5 (by decide) (by omega) (by omega) (fun c5 => ?_) (fun c5 => ?_) | refine J_icmp_ge (tgt := 12) dX2_times_5 (by decide) (fun c5 => ?_) (fun c5 => ?_)
  · refine J_aload_0 dX2_times_12 ?_
    refine J_iload_1 dX2_times_13 ?_
    refine J_aload_0 dX2_times_14 ?_
    refine J_get dX2_times_15 fl_X2_18 hc rfl ?_
    refine J_isubN dX2_times_18 (by omega) ?_
    refine J_iconst (v := nI 1) dX2_times_19 (by decide) ?_
    first | refine J_iaddN dX2_times_20 ?_ | refine J_iadd dX2_times_20 ?_
    refine J_cV1i dX2_times_21 jmX2_firstAtLeast mv_X2_38 hc rfl (Nat.le_of_ble_eq_true rfl) (by decide) (c_fal hE (by omega)) ?_
    refine J_aload_0 dX2_times_24 ?_
    refine J_iload_1 dX2_times_25 ?_
    refine J_aload_0 dX2_times_26 ?_
    refine J_get dX2_times_27 fl_X2_18 hc rfl ?_
    first | refine J_isubN dX2_times_30 (by omega) ?_ | refine J_isub dX2_times_30 ?_
    refine J_cV1i dX2_times_31 jmX2_firstAtLeast mv_X2_38 hc rfl (Nat.le_of_ble_eq_true rfl) (by decide) (c_fal hE (by omega)) ?_
    first | refine J_isubN dX2_times_34 (by omega) ?_ | refine J_isub dX2_times_34 ?_
    exact J_iret dX2_times_35 rfl (⟨by unfold tm; first | rw [if_pos c5] | rw [if_neg (Nat.not_lt.mpr c5)], rfl⟩)
  · refine J_iconst (v := nI 0) dX2_times_8 (by decide) ?_
    refine J_goto (tgt := 35) dX2_times_9 (by decide) ?_
    exact J_iret dX2_times_35 rfl (⟨by unfold tm; first | rw [if_pos c5] | rw [if_neg (Nat.not_lt.mpr c5)], rfl⟩)
theorem c_elike {a b : Nat} {x y : Nat → Nat} (hE : edAt h a x) (hF : edAt h b y) : CtI X mX2_isLike 0 [.ref a, .ref b] h (bI (x 0 = y 0 ∧ x 1 = y 1 ∧ x 3 * y 4 = y 3 * x 4)) := by
  obtain ⟨hc, o0, o1, o2, o3, o4, o5, o6⟩ := id hE
  obtain ⟨hc2, q0, q1, q2, q3, q4, q5, q6⟩ := id hF
  have m1 : x 3 * y 4 ≤ 6 * 6 := Nat.mul_le_mul o4 q6
  have m2 : y 3 * x 4 ≤ 6 * 6 := Nat.mul_le_mul q4 o6
  refine Ct_of jmX2_isLike [some (.ref a), some (.ref b)] (Nat.le_of_ble_eq_true rfl) rfl ?_
  show J X RX2 cX2_isLike 2 _ (some .boolean) _ 0 _ _ _
  refine J_aload_0 dX2_isLike_0 ?_
  refine J_get dX2_isLike_1 fl_X2_41 hc rfl ?_
  refine J_aload_1 dX2_isLike_4 ?_
  refine J_get dX2_isLike_5 fl_X2_41 hc2 rfl ?_
  first | refine J_icmp_neN (tgt := 47) dX2_isLike_8 (by decide) (by omega) (by omega) (fun c8 => ?_) (fun c8 => ?_) | refine J_icmp_ne (tgt := 47) dX2_isLike_8 (by decide) (fun c8 => ?_) (fun c8 => ?_)
  · have e : bI (x 0 = y 0 ∧ x 1 = y 1 ∧ x 3 * y 4 = y 3 * x 4) = 0 := bI_f (by first | exact (fun z => c40 z.2.2) | exact (fun z => c19 z.2.1) | exact (fun z => c8 z.1))
    refine J_iconst (v := nI 0) dX2_isLike_47 (by decide) ?_
    exact J_zret dX2_isLike_48 rfl (by first | exact Or.inl rfl | exact Or.inr rfl | exact bI_01 _) (⟨by rw [e]; rfl, rfl⟩)
  · refine J_aload_0 dX2_isLike_11 ?_
    refine J_get dX2_isLike_12 fl_X2_18 hc rfl ?_
    refine J_aload_1 dX2_isLike_15 ?_
    refine J_get dX2_isLike_16 fl_X2_18 hc2 rfl ?_
    first | refine J_icmp_neN (tgt := 47) dX2_isLike_19 (by decide) (by omega) (by omega) (fun c19 => ?_) (fun c19 => ?_) | refine J_icmp_ne (tgt := 47) dX2_isLike_19 (by decide) (fun c19 => ?_) (fun c19 => ?_)
    · have e : bI (x 0 = y 0 ∧ x 1 = y 1 ∧ x 3 * y 4 = y 3 * x 4) = 0 := bI_f (by first | exact (fun z => c40 z.2.2) | exact (fun z => c19 z.2.1) | exact (fun z => c8 z.1))
      refine J_iconst (v := nI 0) dX2_isLike_47 (by decide) ?_
      exact J_zret dX2_isLike_48 rfl (by first | exact Or.inl rfl | exact Or.inr rfl | exact bI_01 _) (⟨by rw [e]; rfl, rfl⟩)
    · refine J_aload_0 dX2_isLike_22 ?_
      refine J_get dX2_isLike_23 fl_X2_21 hc rfl ?_
      refine J_aload_1 dX2_isLike_26 ?_
      refine J_get dX2_isLike_27 fl_X2_15 hc2 rfl ?_
      first | refine J_imulN dX2_isLike_30 ?_ | refine J_imul dX2_isLike_30 ?_
      refine J_aload_1 dX2_isLike_31 ?_
      refine J_get dX2_isLike_32 fl_X2_21 hc2 rfl ?_
      refine J_aload_0 dX2_isLike_35 ?_
      refine J_get dX2_isLike_36 fl_X2_15 hc rfl ?_
      first | refine J_imulN dX2_isLike_39 ?_ | refine J_imul dX2_isLike_39 ?_
      first | refine J_icmp_neN (tgt := 47) dX2_isLike_40 (by decide) (by omega) (by omega) (fun c40 => ?_) (fun c40 => ?_) | refine J_icmp_ne (tgt := 47) dX2_isLike_40 (by decide) (fun c40 => ?_) (fun c40 => ?_)
      · have e : bI (x 0 = y 0 ∧ x 1 = y 1 ∧ x 3 * y 4 = y 3 * x 4) = 0 := bI_f (by first | exact (fun z => c40 z.2.2) | exact (fun z => c19 z.2.1) | exact (fun z => c8 z.1))
        refine J_iconst (v := nI 0) dX2_isLike_47 (by decide) ?_
        exact J_zret dX2_isLike_48 rfl (by first | exact Or.inl rfl | exact Or.inr rfl | exact bI_01 _) (⟨by rw [e]; rfl, rfl⟩)
      · refine J_iconst (v := nI 1) dX2_isLike_43 (by decide) ?_
        have e : bI (x 0 = y 0 ∧ x 1 = y 1 ∧ x 3 * y 4 = y 3 * x 4) = 1 := bI_t ⟨c8, c19, c40⟩
        refine J_goto (tgt := 48) dX2_isLike_44 (by decide) ?_
        exact J_zret dX2_isLike_48 rfl (by first | exact Or.inl rfl | exact Or.inr rfl | exact bI_01 _) (⟨by rw [e]; rfl, rfl⟩)
end
