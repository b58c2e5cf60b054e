/-! COUNTING -/
def rt (c : Nat) : Nat := if c = 2 then 25 else 30
def lob (f : Nat) : Nat := 2 * (f / 17982 * 9 + (if f % 17982 < 1800 then 0 else 1 + (f % 17982 - 1800) / 1798))
def tno (f c : Nat) : Nat := if c = 0 then f + lob f else f
def toldN (f c w : Nat) : Nat := if w = 0 then tno f c / rt c / 3600 else if w = 1 then tno f c / rt c / 60 % 60 else if w = 2 then tno f c / rt c % 60 else tno f c % rt c
def frmN (m s f c : Nat) : Nat := if c = 0 then (m * 60 + s) * rt c + f - 2 * (m - m / 10) else (m * 60 + s) * rt c + f
theorem lob_le {f : Nat} (hf : f < 10000000) : lob f ≤ 20000 := by
  unfold lob
  split <;> omega
theorem rt_v {c : Nat} : rt c = 25 ∨ rt c = 30 := by unfold rt; split <;> simp
section
variable {X : Cx} {h : HF}
theorem c_rate {c : Nat} (hc : c < 3) : CtI X mX0_rate 0 [.int (nI c)] h (nI (rt c)) := by
  refine Ct_of jmX0_rate [some (.int (nI c))] (Nat.le_of_ble_eq_true rfl) rfl ?_
  show J X RX0 cX0_rate 1 _ (some .int) _ 0 _ _ _
  refine J_iload_0 dX0_rate_0 ?_
  refine J_iconst (v := nI 2) dX0_rate_1 (by decide) ?_
  first | refine J_icmp_neN (tgt := 10) dX0_rate_2 (by decide) (by omega) (by omega) (fun c2 => ?_) (fun c2 => ?_) | refine J_icmp_ne (tgt := 10) dX0_rate_2 (by decide) (fun c2 => ?_) (fun c2 => ?_)
  · refine J_bipush (v := nI 30) dX0_rate_10 (by decide) ?_
    exact J_iret dX0_rate_12 rfl (⟨by unfold rt; first | rw [if_pos c2] | rw [if_neg c2], rfl⟩)
  · refine J_bipush (v := nI 25) dX0_rate_5 (by decide) ?_
    refine J_goto (tgt := 12) dX0_rate_7 (by decide) ?_
    exact J_iret dX0_rate_12 rfl (⟨by unfold rt; first | rw [if_pos c2] | rw [if_neg c2], rfl⟩)
theorem c_lob {f : Nat} (hf : f < 10000000) : CtI X mX0_leftOutBefore 0 [.int (nI f)] h (nI (lob f)) := by
  refine Ct_of jmX0_leftOutBefore [some (.int (nI f)), none, none] (Nat.le_of_ble_eq_true rfl) rfl ?_
  show J X RX0 cX0_leftOutBefore 3 _ (some .int) _ 0 _ _ _
  refine J_iload_0 dX0_leftOutBefore_0 ?_
  refine J_sipush (v := nI 17982) dX0_leftOutBefore_1 (by decide) ?_
  refine J_iremN dX0_leftOutBefore_4 (by omega) (by omega) (by omega) ?_
  refine J_istore_1 dX0_leftOutBefore_5 (Nat.le_of_ble_eq_true rfl) rfl ?_
  refine J_iload_1 dX0_leftOutBefore_6 ?_
  refine J_sipush (v := nI 1800) dX0_leftOutBefore_7 (by decide) ?_
  first | refine J_icmp_geN (tgt := 17) dX0_leftOutBefore_10 (by decide) (by omega) (by omega) (fun c10 => ?_) (fun c10 => ?_) | refine J_icmp_ge (tgt := 17) dX0_leftOutBefore_10 (by decide) (fun c10 => ?_) (fun c10 => ?_)
  · refine J_iconst (v := nI 1) dX0_leftOutBefore_17 (by decide) ?_
    refine J_iload_1 dX0_leftOutBefore_18 ?_
    refine J_sipush (v := nI 1800) dX0_leftOutBefore_19 (by decide) ?_
    first | refine J_isubN dX0_leftOutBefore_22 (by omega) ?_ | refine J_isub dX0_leftOutBefore_22 ?_
    refine J_sipush (v := nI 1798) dX0_leftOutBefore_23 (by decide) ?_
    refine J_idivN dX0_leftOutBefore_26 (by omega) (by omega) (by omega) ?_
    first | refine J_iaddN dX0_leftOutBefore_27 ?_ | refine J_iadd dX0_leftOutBefore_27 ?_
    refine J_istore_2 dX0_leftOutBefore_28 (Nat.le_of_ble_eq_true rfl) rfl ?_
    refine J_iconst (v := nI 2) dX0_leftOutBefore_29 (by decide) ?_
    refine J_iload_0 dX0_leftOutBefore_30 ?_
    refine J_sipush (v := nI 17982) dX0_leftOutBefore_31 (by decide) ?_
    refine J_idivN dX0_leftOutBefore_34 (by omega) (by omega) (by omega) ?_
    refine J_bipush (v := nI 9) dX0_leftOutBefore_35 (by decide) ?_
    first | refine J_imulN dX0_leftOutBefore_37 ?_ | refine J_imul dX0_leftOutBefore_37 ?_
    refine J_iload_2 dX0_leftOutBefore_38 ?_
    first | refine J_iaddN dX0_leftOutBefore_39 ?_ | refine J_iadd dX0_leftOutBefore_39 ?_
    first | refine J_imulN dX0_leftOutBefore_40 ?_ | refine J_imul dX0_leftOutBefore_40 ?_
    exact J_iret dX0_leftOutBefore_41 rfl (⟨by unfold lob; first | rw [if_pos c10] | rw [if_neg (Nat.not_lt.mpr c10)], rfl⟩)
  · refine J_iconst (v := nI 0) dX0_leftOutBefore_13 (by decide) ?_
    refine J_goto (tgt := 28) dX0_leftOutBefore_14 (by decide) ?_
    refine J_istore_2 dX0_leftOutBefore_28 (Nat.le_of_ble_eq_true rfl) rfl ?_
    refine J_iconst (v := nI 2) dX0_leftOutBefore_29 (by decide) ?_
    refine J_iload_0 dX0_leftOutBefore_30 ?_
    refine J_sipush (v := nI 17982) dX0_leftOutBefore_31 (by decide) ?_
    refine J_idivN dX0_leftOutBefore_34 (by omega) (by omega) (by omega) ?_
    refine J_bipush (v := nI 9) dX0_leftOutBefore_35 (by decide) ?_
    first | refine J_imulN dX0_leftOutBefore_37 ?_ | refine J_imul dX0_leftOutBefore_37 ?_
    refine J_iload_2 dX0_leftOutBefore_38 ?_
    first | refine J_iaddN dX0_leftOutBefore_39 ?_ | refine J_iadd dX0_leftOutBefore_39 ?_
    first | refine J_imulN dX0_leftOutBefore_40 ?_ | refine J_imul dX0_leftOutBefore_40 ?_
    exact J_iret dX0_leftOutBefore_41 rfl (⟨by unfold lob; first | rw [if_pos c10] | rw [if_neg (Nat.not_lt.mpr c10)], rfl⟩)
theorem c_isLeftOut {m s f : Nat} (hm : m < 60) (hs : s < 60) (hf : f < 30) : CtI X mX0_isLeftOut 0 [.int (nI m), .int (nI s), .int (nI f)] h (bI (¬ m % 10 = 0 ∧ s = 0 ∧ f < 2)) := by
  refine Ct_of jmX0_isLeftOut [some (.int (nI m)), some (.int (nI s)), some (.int (nI f))] (Nat.le_of_ble_eq_true rfl) rfl ?_
  show J X RX0 cX0_isLeftOut 3 _ (some .boolean) _ 0 _ _ _
  refine J_iload_0 dX0_isLeftOut_0 ?_
  refine J_bipush (v := nI 10) dX0_isLeftOut_1 (by decide) ?_
  refine J_iremN dX0_isLeftOut_3 (by omega) (by omega) (by omega) ?_
  first | refine J_if_eqB (tgt := 20) dX0_isLeftOut_4 (by decide) (fun c4 => ?_) (fun c4 => ?_) | refine J_if_eqN (tgt := 20) dX0_isLeftOut_4 (by decide) (by omega) (fun c4 => ?_) (fun c4 => ?_) | refine J_if_eq (tgt := 20) dX0_isLeftOut_4 (by decide) (fun c4 => ?_) (fun c4 => ?_)
  · have e : bI (¬ m % 10 = 0 ∧ s = 0 ∧ f < 2) = 0 := bI_f (by omega)
    refine J_iconst (v := nI 0) dX0_isLeftOut_20 (by decide) ?_
    exact J_zret dX0_isLeftOut_21 rfl (by first | exact Or.inl rfl | exact Or.inr rfl | exact bI_01 _) (⟨by rw [e]; rfl, rfl⟩)
  · refine J_iload_1 dX0_isLeftOut_7 ?_
    first | refine J_if_neB (tgt := 20) dX0_isLeftOut_8 (by decide) (fun c8 => ?_) (fun c8 => ?_) | refine J_if_neN (tgt := 20) dX0_isLeftOut_8 (by decide) (by omega) (fun c8 => ?_) (fun c8 => ?_) | refine J_if_ne (tgt := 20) dX0_isLeftOut_8 (by decide) (fun c8 => ?_) (fun c8 => ?_)
    · have e : bI (¬ m % 10 = 0 ∧ s = 0 ∧ f < 2) = 0 := bI_f (by omega)
      refine J_iconst (v := nI 0) dX0_isLeftOut_20 (by decide) ?_
      exact J_zret dX0_isLeftOut_21 rfl (by first | exact Or.inl rfl | exact Or.inr rfl | exact bI_01 _) (⟨by rw [e]; rfl, rfl⟩)
    · refine J_iload_2 dX0_isLeftOut_11 ?_
      refine J_iconst (v := nI 2) dX0_isLeftOut_12 (by decide) ?_
      first | refine J_icmp_geN (tgt := 20) dX0_isLeftOut_13 (by decide) (by omega) (by omega) (fun c13 => ?_) (fun c13 => ?_) | refine J_icmp_ge (tgt := 20) dX0_isLeftOut_13 (by decide) (fun c13 => ?_) (fun c13 => ?_)
      · have e : bI (¬ m % 10 = 0 ∧ s = 0 ∧ f < 2) = 0 := bI_f (by omega)
        refine J_iconst (v := nI 0) dX0_isLeftOut_20 (by decide) ?_
        exact J_zret dX0_isLeftOut_21 rfl (by first | exact Or.inl rfl | exact Or.inr rfl | exact bI_01 _) (⟨by rw [e]; rfl, rfl⟩)
      · refine J_iconst (v := nI 1) dX0_isLeftOut_16 (by decide) ?_
        have e : bI (¬ m % 10 = 0 ∧ s = 0 ∧ f < 2) = 1 := bI_t (by omega)
        refine J_goto (tgt := 21) dX0_isLeftOut_17 (by decide) ?_
        exact J_zret dX0_isLeftOut_21 rfl (by first | exact Or.inl rfl | exact Or.inr rfl | exact bI_01 _) (⟨by rw [e]; rfl, rfl⟩)
theorem c_frame {m s f c : Nat} (hm : m < 6000) (hs : s < 60) (hf : f < 30) (hc : c < 3) : CtI X mX0_frame 1 [.int (nI m), .int (nI s), .int (nI f), .int (nI c)] h (nI (frmN m s f c)) := by
  have hr := @rt_v c
  have hb : (m * 60 + s) * rt c ≤ 360000 * 30 := Nat.mul_le_mul (by omega) (by omega)
  have hl : (m * 60 + s) * 25 ≤ (m * 60 + s) * rt c := Nat.mul_le_mul_left _ (by omega)
  refine Ct_of jmX0_frame [some (.int (nI m)), some (.int (nI s)), some (.int (nI f)), some (.int (nI c)), none] (Nat.le_of_ble_eq_true rfl) rfl ?_
  show J X RX0 cX0_frame 5 _ (some .int) _ 0 _ _ _
  refine J_iload_0 dX0_frame_0 ?_
  refine J_bipush (v := nI 60) dX0_frame_1 (by decide) ?_
  first | refine J_imulN dX0_frame_3 ?_ | refine J_imul dX0_frame_3 ?_
  refine J_iload_1 dX0_frame_4 ?_
  first | refine J_iaddN dX0_frame_5 ?_ | refine J_iadd dX0_frame_5 ?_
  refine J_iload_3 dX0_frame_6 ?_
  refine J_cS1i dX0_frame_7 jmX0_rate ms_X0_9 (Nat.le_of_ble_eq_true rfl) (by decide) (c_rate hc) ?_
  first | refine J_imulN dX0_frame_10 ?_ | refine J_imul dX0_frame_10 ?_
  refine J_iload_2 dX0_frame_11 ?_
  first | refine J_iaddN dX0_frame_12 ?_ | refine J_iadd dX0_frame_12 ?_
  refine J_istore_4 dX0_frame_13 (Nat.le_of_ble_eq_true rfl) rfl ?_
  refine J_iload_3 dX0_frame_15 ?_
  first | refine J_if_neB (tgt := 33) dX0_frame_16 (by decide) (fun c16 => ?_) (fun c16 => ?_) | refine J_if_neN (tgt := 33) dX0_frame_16 (by decide) (by omega) (fun c16 => ?_) (fun c16 => ?_) | refine J_if_ne (tgt := 33) dX0_frame_16 (by decide) (fun c16 => ?_) (fun c16 => ?_)
  · refine J_iload_4 dX0_frame_33 ?_
    exact J_iret dX0_frame_35 rfl (⟨by unfold frmN; first | rw [if_pos c16] | rw [if_neg (Nat.ne_of_gt c16)], rfl⟩)
  · refine J_iload_4 dX0_frame_19 ?_
    refine J_iconst (v := nI 2) dX0_frame_21 (by decide) ?_
    refine J_iload_0 dX0_frame_22 ?_
    refine J_iload_0 dX0_frame_23 ?_
    refine J_bipush (v := nI 10) dX0_frame_24 (by decide) ?_
    refine J_idivN dX0_frame_26 (by omega) (by omega) (by omega) ?_
    first | refine J_isubN dX0_frame_27 (by omega) ?_ | refine J_isub dX0_frame_27 ?_
    first | refine J_imulN dX0_frame_28 ?_ | refine J_imul dX0_frame_28 ?_
    first | refine J_isubN dX0_frame_29 (by omega) ?_ | refine J_isub dX0_frame_29 ?_
    refine J_goto (tgt := 35) dX0_frame_30 (by decide) ?_
    exact J_iret dX0_frame_35 rfl (⟨by unfold frmN; first | rw [if_pos c16] | rw [if_neg (Nat.ne_of_gt c16)], rfl⟩)
theorem c_partT {f c w : Nat} (hf : f < 10000000) (hc : c < 3) (hw : w < 4) : CtI X mX0_part 1 [.int (nI f), .int (nI c), .int (nI w)] h (nI (toldN f c w)) := by
  have hr := @rt_v c
  have hl := lob_le hf
  have hq : tno f c ≤ 10100000 := by unfold tno; split <;> omega
  have key : ∀ (o5 : Option Value) (z : Nat), z = tno f c → J X RX0 cX0_part 6 1 (some .int) (fun r h' => r = some (.int (nI (toldN f c w))) ∧ h' = h) 19 [some (.int (nI f)), some (.int (nI c)), some (.int (nI w)), some (.int (nI (rt c))), none, o5] [.int (nI z)] h := by
    rintro o5 z rfl
    have hd : tno f c / rt c ≤ tno f c := Nat.div_le_self _ _
    have hm : tno f c / rt c * rt c ≤ tno f c := Nat.div_mul_le_self _ _
    have h3 : tno f c - tno f c / rt c * rt c = tno f c % rt c := by
      have := Nat.div_add_mod (tno f c) (rt c)
      rw [Nat.mul_comm] at this
      omega
    rcases (show w = 0 ∨ w = 1 ∨ w = 2 ∨ w = 3 by omega) with rfl | rfl | rfl | rfl
    · refine J_istore_4 dX0_part_19 (Nat.le_of_ble_eq_true rfl) rfl ?_
      refine J_iload_3 dX0_part_21 ?_
      refine J_if_neN (tgt := 29) dX0_part_22 (by decide) (by omega) (fun _ => ?_) (fun c => absurd c (by omega))
      refine J_iload_4 dX0_part_29 ?_
      refine J_iload_3 dX0_part_31 ?_
      refine J_idivN dX0_part_32 (by omega) (by omega) (by omega) ?_
      refine J_istore_5 dX0_part_33 (Nat.le_of_ble_eq_true rfl) rfl ?_
      refine J_iload_2 dX0_part_35 ?_
      refine J_tabN (tgt := 64) dX0_part_36 (by decide) (by decide) rfl (by decide) ?_
      refine J_iload_5 dX0_part_64 ?_
      refine J_sipush (v := nI 3600) dX0_part_66 (by decide) ?_
      refine J_idivN dX0_part_69 (by omega) (by omega) (by omega) ?_
      exact J_iret dX0_part_70 rfl (⟨rfl, rfl⟩)
    · refine J_istore_4 dX0_part_19 (Nat.le_of_ble_eq_true rfl) rfl ?_
      refine J_iload_3 dX0_part_21 ?_
      refine J_if_neN (tgt := 29) dX0_part_22 (by decide) (by omega) (fun _ => ?_) (fun c => absurd c (by omega))
      refine J_iload_4 dX0_part_29 ?_
      refine J_iload_3 dX0_part_31 ?_
      refine J_idivN dX0_part_32 (by omega) (by omega) (by omega) ?_
      refine J_istore_5 dX0_part_33 (Nat.le_of_ble_eq_true rfl) rfl ?_
      refine J_iload_2 dX0_part_35 ?_
      refine J_tabN (tgt := 71) dX0_part_36 (by decide) (by decide) rfl (by decide) ?_
      refine J_iload_5 dX0_part_71 ?_
      refine J_bipush (v := nI 60) dX0_part_73 (by decide) ?_
      refine J_idivN dX0_part_75 (by omega) (by omega) (by omega) ?_
      refine J_bipush (v := nI 60) dX0_part_76 (by decide) ?_
      refine J_iremN dX0_part_78 (by omega) (by omega) (by omega) ?_
      exact J_iret dX0_part_79 rfl (⟨rfl, rfl⟩)
    · refine J_istore_4 dX0_part_19 (Nat.le_of_ble_eq_true rfl) rfl ?_
      refine J_iload_3 dX0_part_21 ?_
      refine J_if_neN (tgt := 29) dX0_part_22 (by decide) (by omega) (fun _ => ?_) (fun c => absurd c (by omega))
      refine J_iload_4 dX0_part_29 ?_
      refine J_iload_3 dX0_part_31 ?_
      refine J_idivN dX0_part_32 (by omega) (by omega) (by omega) ?_
      refine J_istore_5 dX0_part_33 (Nat.le_of_ble_eq_true rfl) rfl ?_
      refine J_iload_2 dX0_part_35 ?_
      refine J_tabN (tgt := 80) dX0_part_36 (by decide) (by decide) rfl (by decide) ?_
      refine J_iload_5 dX0_part_80 ?_
      refine J_bipush (v := nI 60) dX0_part_82 (by decide) ?_
      refine J_iremN dX0_part_84 (by omega) (by omega) (by omega) ?_
      exact J_iret dX0_part_85 rfl (⟨rfl, rfl⟩)
    · refine J_istore_4 dX0_part_19 (Nat.le_of_ble_eq_true rfl) rfl ?_
      refine J_iload_3 dX0_part_21 ?_
      refine J_if_neN (tgt := 29) dX0_part_22 (by decide) (by omega) (fun _ => ?_) (fun c => absurd c (by omega))
      refine J_iload_4 dX0_part_29 ?_
      refine J_iload_3 dX0_part_31 ?_
      refine J_idivN dX0_part_32 (by omega) (by omega) (by omega) ?_
      refine J_istore_5 dX0_part_33 (Nat.le_of_ble_eq_true rfl) rfl ?_
      refine J_iload_2 dX0_part_35 ?_
      refine J_tabNo (tgt := 86) dX0_part_36 (by decide) (by decide) (by decide) ?_
      refine J_iload_4 dX0_part_86 ?_
      refine J_iload_5 dX0_part_88 ?_
      refine J_iload_3 dX0_part_90 ?_
      first | refine J_imulN dX0_part_91 ?_ | refine J_imul dX0_part_91 ?_
      first | refine J_isubN dX0_part_92 (by omega) ?_ | refine J_isub dX0_part_92 ?_
      exact J_iret dX0_part_93 rfl (⟨by rw [h3]; rfl, rfl⟩)
  refine Ct_of jmX0_part [some (.int (nI f)), some (.int (nI c)), some (.int (nI w)), none, none, none] (Nat.le_of_ble_eq_true rfl) rfl ?_
  show J X RX0 cX0_part 6 _ (some .int) _ 0 _ _ _
  refine J_iload_1 dX0_part_0 ?_
  refine J_cS1i dX0_part_1 jmX0_rate ms_X0_9 (Nat.le_of_ble_eq_true rfl) (by decide) (c_rate hc) ?_
  refine J_istore_3 dX0_part_4 (Nat.le_of_ble_eq_true rfl) rfl ?_
  refine J_iload_1 dX0_part_5 ?_
  first | refine J_if_neB (tgt := 18) dX0_part_6 (by decide) (fun c6 => ?_) (fun c6 => ?_) | refine J_if_neN (tgt := 18) dX0_part_6 (by decide) (by omega) (fun c6 => ?_) (fun c6 => ?_) | refine J_if_ne (tgt := 18) dX0_part_6 (by decide) (fun c6 => ?_) (fun c6 => ?_)
  · refine J_iload_0 dX0_part_18 ?_
    exact key none _ (by unfold tno; first | exact (if_pos c6).symm | exact (if_neg (Nat.ne_of_gt c6)).symm)
  · refine J_iload_0 dX0_part_9 ?_
    refine J_iload_0 dX0_part_10 ?_
    refine J_cS1i dX0_part_11 jmX0_leftOutBefore ms_X0_13 (Nat.le_of_ble_eq_true rfl) (by decide) (c_lob hf) ?_
    first | refine J_iaddN dX0_part_14 ?_ | refine J_iadd dX0_part_14 ?_
    refine J_goto (tgt := 19) dX0_part_15 (by decide) ?_
    exact key none _ (by unfold tno; first | exact (if_pos c6).symm | exact (if_neg (Nat.ne_of_gt c6)).symm)
end
