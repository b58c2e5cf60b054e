section
variable {X : Cx} {own : String} {cc : ByteArray} {nL d : Nat} {ret : Option FieldType} {Q : Option Value → HF → Prop} {pc : Nat} {ls : List (Option Value)} {st : List Value} {h : HF}
theorem J_tabN {dflt hi : Int} {offs : Array Int} {len j : Nat} {off : Int} {tgt : Nat} (hd : decode cc pc = .ok (.tableswitch dflt 0 hi offs, len)) (hj : j < 2 ^ 31) (h2 : (j : Int) ≤ hi) (ho : offs[j]? = some off) (ht : (pc : Int) + off = (tgt : Int)) (k : J X own cc nL d ret Q tgt ls st h) : J X own cc nL d ret Q pc ls (.int (nI j) :: st) h :=
  J_tabIn hd (by rw [nI_toInt hj]; omega) (by rw [nI_toInt hj]; omega) (by rw [nI_toInt hj]; simpa using ho) ht k
theorem J_tabNo {dflt hi : Int} {offs : Array Int} {len j : Nat} {tgt : Nat} (hd : decode cc pc = .ok (.tableswitch dflt 0 hi offs, len)) (hj : j < 2 ^ 31) (h2 : hi < (j : Int)) (ht : (pc : Int) + dflt = (tgt : Int)) (k : J X own cc nL d ret Q tgt ls st h) : J X own cc nL d ret Q pc ls (.int (nI j) :: st) h :=
  J_tabOut hd (by rw [nI_toInt hj]; omega) ht k
end
/-! CUT: its object at c, its row at c + 1, its EDITS at c + 2 on; n of them count -/
def cutAt (h : HF) (c n : Nat) (x : Nat → Nat → Nat) : Prop := hAt h c (oB 0 [.ref (c + 1), .int (nI n)]) ∧ (∃ f : Nat → Option Nat, hAt h (c + 1) (oR 2 8 f) ∧ ∀ j, j < 8 → f j = some (c + 2 + j)) ∧ (∀ e, e < 8 → edAt h (c + 2 + e) (x e)) ∧ n ≤ 8
def bg (x : Nat → Nat → Nat) (e : Nat) : Nat := match e with
  | 0 => 0
  | e + 1 => bg x e + x e 2
theorem bg_le {h : HF} {c n : Nat} {x : Nat → Nat → Nat} (hC : cutAt h c n x) {e : Nat} (he : e ≤ 8) : bg x e ≤ 500 * e := by
  induction e with
  | zero => exact Nat.le_refl _
  | succ e ih =>
    have := ih (by omega)
    have o := (hC.2.2.1 e (by omega)).2
    have o3 := o.2.2.2.1
    show bg x e + x e 2 ≤ _
    omega
theorem bg_mono {x : Nat → Nat → Nat} {i j : Nat} (hij : i ≤ j) : bg x i ≤ bg x j := by
  induction j with
  | zero => rw [Nat.le_zero.mp hij]; exact Nat.le_refl _
  | succ j ih =>
    by_cases e : i = j + 1
    · rw [e]; exact Nat.le_refl _
    · exact Nat.le_trans (ih (by omega)) (Nat.le_add_right _ _)
section
variable {X : Cx} {h : HF} {c n : Nat} {x : Nat → Nat → Nat}
theorem c_cutFull (hC : cutAt h c n x) : CtI X mX1_isFull 0 [.ref c] h (bI (n = 8)) := by
  obtain ⟨hc, -, -, hn⟩ := hC
  refine Ct_of jmX1_isFull [some (.ref c)] (Nat.le_of_ble_eq_true rfl) rfl ?_
  show J X RX1 cX1_isFull 1 _ (some .boolean) _ 0 _ _ _
  refine J_aload_0 dX1_isFull_0 ?_
  refine J_get dX1_isFull_1 fl_X1_18 hc rfl ?_
  refine J_bipush (v := nI 8) dX1_isFull_4 (by decide) ?_
  first | refine J_icmp_ltN (tgt := 13) dX1_isFull_6 (by decide) (by omega) (by omega) (fun c6 => ?_) (fun c6 => ?_) | refine J_icmp_lt (tgt := 13) dX1_isFull_6 (by decide) (fun c6 => ?_) (fun c6 => ?_)
  · have e : bI (n = 8) = 0 := bI_f (by omega)
    refine J_iconst (v := nI 0) dX1_isFull_13 (by decide) ?_
    exact J_zret dX1_isFull_14 rfl (by first | exact Or.inl rfl | exact Or.inr rfl | exact bI_01 _) (⟨by rw [e]; rfl, rfl⟩)
  · refine J_iconst (v := nI 1) dX1_isFull_9 (by decide) ?_
    have e : bI (n = 8) = 1 := bI_t (by omega)
    refine J_goto (tgt := 14) dX1_isFull_10 (by decide) ?_
    exact J_zret dX1_isFull_14 rfl (by first | exact Or.inl rfl | exact Or.inr rfl | exact bI_01 _) (⟨by rw [e]; rfl, rfl⟩)
theorem l_begin (hC : cutAt h c n x) {m : Nat} (hm : m ≤ n) : ∀ (k e : Nat), e + k = m → J X RX1 cX1_begin 4 0 (some .int) (fun r h' => r = some (.int (nI (bg x m))) ∧ h' = h) 4 [some (.ref c), some (.int (nI m)), some (.int (nI (bg x e))), some (.int (nI e))] [] h := by
  obtain ⟨hc, ⟨f, hf, hfe⟩, hE, hn⟩ := id hC
  intro k
  induction k with
  | zero =>
    intro e he
    obtain rfl : e = m := by omega
    refine J_iload_3 dX1_begin_4 ?_
    refine J_iload_1 dX1_begin_5 ?_
    refine J_icmp_geN (tgt := 35) dX1_begin_6 (by decide) (by omega) (by omega) (fun _ => ?_) (fun c => absurd c (by omega))
    refine J_iload_2 dX1_begin_35 ?_
    exact J_iret dX1_begin_36 rfl (⟨rfl, rfl⟩)
  | succ k ih =>
    intro e he
    refine J_iload_3 dX1_begin_4 ?_
    refine J_iload_1 dX1_begin_5 ?_
    refine J_icmp_geN (tgt := 35) dX1_begin_6 (by decide) (by omega) (by omega) (fun c => absurd c (by omega)) (fun _ => ?_)
    refine J_iload_3 dX1_begin_9 ?_
    refine J_aload_0 dX1_begin_10 ?_
    refine J_get dX1_begin_11 fl_X1_18 hc rfl ?_
    refine J_icmp_geN (tgt := 35) dX1_begin_14 (by decide) (by omega) (by omega) (fun c => absurd c (by omega)) (fun _ => ?_)
    refine J_iload_2 dX1_begin_17 ?_
    refine J_aload_0 dX1_begin_18 ?_
    refine J_get dX1_begin_19 fl_X1_11 hc rfl ?_
    refine J_iload_3 dX1_begin_22 ?_
    refine J_aald dX1_begin_23 hf ⟨_, rfl⟩ rfl (by omega) (by decide) (hfe e (by omega)) ?_
    refine J_get dX1_begin_24 fl_X1_32 (hE e (by omega)).1 rfl ?_
    first | refine J_iaddN dX1_begin_27 ?_ | refine J_iadd dX1_begin_27 ?_
    refine J_istore_2 dX1_begin_28 (Nat.le_of_ble_eq_true rfl) rfl ?_
    first | refine J_inc_3 dX1_begin_29 (Nat.le_of_ble_eq_true rfl) rfl ?_ | refine J_iinc_3 dX1_begin_29 rfl (Nat.le_of_ble_eq_true rfl) rfl ?_
    refine J_goto (tgt := 4) dX1_begin_32 (by decide) ?_
    exact ih (e + 1) (by omega)
theorem c_begin (hC : cutAt h c n x) {m : Nat} (hm : m ≤ n) : CtI X mX1_begin 0 [.ref c, .int (nI m)] h (nI (bg x m)) := by
  refine Ct_of jmX1_begin [some (.ref c), some (.int (nI m)), none, none] (Nat.le_of_ble_eq_true rfl) rfl ?_
  show J X RX1 cX1_begin 4 _ (some .int) _ 0 _ _ _
  refine J_iconst (v := nI 0) dX1_begin_0 (by decide) ?_
  refine J_istore_2 dX1_begin_1 (Nat.le_of_ble_eq_true rfl) rfl ?_
  refine J_iconst (v := nI 0) dX1_begin_2 (by decide) ?_
  refine J_istore_3 dX1_begin_3 (Nat.le_of_ble_eq_true rfl) rfl ?_
  exact l_begin hC hm m 0 (by omega)
theorem c_frames (hC : cutAt h c n x) : CtI X mX1_frames 1 [.ref c] h (nI (bg x n)) := by
  have hc := hC.1
  refine Ct_of jmX1_frames [some (.ref c)] (Nat.le_of_ble_eq_true rfl) rfl ?_
  show J X RX1 cX1_frames 1 _ (some .int) _ 0 _ _ _
  refine J_aload_0 dX1_frames_0 ?_
  refine J_aload_0 dX1_frames_1 ?_
  refine J_get dX1_frames_2 fl_X1_18 hc rfl ?_
  refine J_cV1i dX1_frames_5 jmX1_begin mv_X1_41 hc rfl (Nat.le_of_ble_eq_true rfl) (by decide) (c_begin hC (Nat.le_refl n)) ?_
  exact J_iret dX1_frames_8 rfl (⟨rfl, rfl⟩)
/-- which EDIT holds frame f of the cut: from e on, k of them -/
def hold (x : Nat → Nat → Nat) (f e k : Nat) : Option Nat := match k with
  | 0 => none
  | k + 1 => if f < bg x (e + 1) then some e else hold x f (e + 1) k
theorem l_holder (hC : cutAt h c n x) {f : Nat} (hf0 : f < 4000) : ∀ (k e : Nat), e + k = n → J X RX1 cX1_holder 4 0 (some .int) (fun r h' => r = some (.int (oN (hold x f e k))) ∧ h' = h) 4 [some (.ref c), some (.int (nI f)), some (.int (nI (bg x e))), some (.int (nI e))] [] h := by
  obtain ⟨hc, ⟨g, hf, hfe⟩, hE, hn⟩ := id hC
  intro k
  induction k with
  | zero =>
    intro e he
    refine J_iload_3 dX1_holder_4 ?_
    refine J_aload_0 dX1_holder_5 ?_
    refine J_get dX1_holder_6 fl_X1_18 hc rfl ?_
    refine J_icmp_geN (tgt := 37) dX1_holder_9 (by decide) (by omega) (by omega) (fun _ => ?_) (fun c => absurd c (by omega))
    refine J_iconst (v := -1) dX1_holder_37 (by decide) ?_
    exact J_iret dX1_holder_38 rfl (⟨rfl, rfl⟩)
  | succ k ih =>
    intro e he
    have hb : bg x e + x e 2 ≤ 500 * (e + 1) := bg_le hC (e := e + 1) (by omega)
    refine J_iload_3 dX1_holder_4 ?_
    refine J_aload_0 dX1_holder_5 ?_
    refine J_get dX1_holder_6 fl_X1_18 hc rfl ?_
    refine J_icmp_geN (tgt := 37) dX1_holder_9 (by decide) (by omega) (by omega) (fun c => absurd c (by omega)) (fun _ => ?_)
    refine J_iload_2 dX1_holder_12 ?_
    refine J_aload_0 dX1_holder_13 ?_
    refine J_get dX1_holder_14 fl_X1_11 hc rfl ?_
    refine J_iload_3 dX1_holder_17 ?_
    refine J_aald dX1_holder_18 hf ⟨_, rfl⟩ rfl (by omega) (by decide) (hfe e (by omega)) ?_
    refine J_get dX1_holder_19 fl_X1_32 (hE e (by omega)).1 rfl ?_
    first | refine J_iaddN dX1_holder_22 ?_ | refine J_iadd dX1_holder_22 ?_
    refine J_istore_2 dX1_holder_23 (Nat.le_of_ble_eq_true rfl) rfl ?_
    refine J_iload_1 dX1_holder_24 ?_
    refine J_iload_2 dX1_holder_25 ?_
    first | refine J_icmp_geN (tgt := 31) dX1_holder_26 (by decide) (by omega) (by omega) (fun c26 => ?_) (fun c26 => ?_) | refine J_icmp_ge (tgt := 31) dX1_holder_26 (by decide) (fun c26 => ?_) (fun c26 => ?_)
    · rw [show hold x f e (k + 1) = hold x f (e + 1) k from if_neg (Nat.not_lt.mpr c26)]
      first | refine J_inc_3 dX1_holder_31 (Nat.le_of_ble_eq_true rfl) rfl ?_ | refine J_iinc_3 dX1_holder_31 rfl (Nat.le_of_ble_eq_true rfl) rfl ?_
      refine J_goto (tgt := 4) dX1_holder_34 (by decide) ?_
      exact ih (e + 1) (by omega)
    · refine J_iload_3 dX1_holder_29 ?_
      exact J_iret dX1_holder_30 rfl (⟨by rw [show hold x f e (k + 1) = some e from if_pos c26]; rfl, rfl⟩)
theorem c_holder (hC : cutAt h c n x) {f : Nat} (hf0 : f < 4000) : CtI X mX1_holder 0 [.ref c, .int (nI f)] h (oN (hold x f 0 n)) := by
  refine Ct_of jmX1_holder [some (.ref c), some (.int (nI f)), none, none] (Nat.le_of_ble_eq_true rfl) rfl ?_
  show J X RX1 cX1_holder 4 _ (some .int) _ 0 _ _ _
  refine J_iconst (v := nI 0) dX1_holder_0 (by decide) ?_
  refine J_istore_2 dX1_holder_1 (Nat.le_of_ble_eq_true rfl) rfl ?_
  refine J_iconst (v := nI 0) dX1_holder_2 (by decide) ?_
  refine J_istore_3 dX1_holder_3 (Nat.le_of_ble_eq_true rfl) rfl ?_
  exact l_holder hC hf0 n 0 (by omega)
def tms (x : Nat → Nat → Nat) (r f e k : Nat) : Nat := match k with
  | 0 => 0
  | k + 1 => (if x e 0 = r then tm (x e) f else 0) + tms x r f (e + 1) k
theorem l_times (hC : cutAt h c n x) {r f : Nat} (hr : r < 6) (hf0 : f < 300000) : ∀ (k e s : Nat), e + k = n → J X RX1 cX1_times 5 2 (some .int) (fun q h' => q = some (.int (nI (s + tms x r f e k))) ∧ h' = h) 5 [some (.ref c), some (.int (nI r)), some (.int (nI f)), some (.int (nI s)), some (.int (nI e))] [] h := by
  obtain ⟨hc, ⟨g, hf, hfe⟩, hE, hn⟩ := id hC
  intro k
  induction k with
  | zero =>
    intro e s he
    refine J_iload_4 dX1_times_5 ?_
    refine J_aload_0 dX1_times_7 ?_
    refine J_get dX1_times_8 fl_X1_18 hc rfl ?_
    refine J_icmp_geN (tgt := 48) dX1_times_11 (by decide) (by omega) (by omega) (fun _ => ?_) (fun c => absurd c (by omega))
    refine J_iload_3 dX1_times_48 ?_
    exact J_iret dX1_times_49 rfl (⟨rfl, rfl⟩)
  | succ k ih =>
    intro e s he
    have o := (hE e (by omega)).2
    have o0 := o.1
    refine J_iload_4 dX1_times_5 ?_
    refine J_aload_0 dX1_times_7 ?_
    refine J_get dX1_times_8 fl_X1_18 hc rfl ?_
    refine J_icmp_geN (tgt := 48) dX1_times_11 (by decide) (by omega) (by omega) (fun c => absurd c (by omega)) (fun _ => ?_)
    refine J_aload_0 dX1_times_14 ?_
    refine J_get dX1_times_15 fl_X1_11 hc rfl ?_
    refine J_iload_4 dX1_times_18 ?_
    refine J_aald dX1_times_20 hf ⟨_, rfl⟩ rfl (by omega) (by decide) (hfe e (by omega)) ?_
    refine J_get dX1_times_21 fl_X1_26 (hE e (by omega)).1 rfl ?_
    refine J_iload_1 dX1_times_24 ?_
    first | refine J_icmp_neN (tgt := 42) dX1_times_25 (by decide) (by omega) (by omega) (fun c25 => ?_) (fun c25 => ?_) | refine J_icmp_ne (tgt := 42) dX1_times_25 (by decide) (fun c25 => ?_) (fun c25 => ?_)
    · try rw [show s + tms x r f e (k + 1) = s + tms x r f (e + 1) k from by rw [tms, if_neg c25]; omega]
      first | refine J_inc_4 dX1_times_42 (Nat.le_of_ble_eq_true rfl) rfl ?_ | refine J_iinc_4 dX1_times_42 rfl (Nat.le_of_ble_eq_true rfl) rfl ?_
      refine J_goto (tgt := 5) dX1_times_45 (by decide) ?_
      exact ih (e + 1) _ (by omega)
    · refine J_iload_3 dX1_times_28 ?_
      refine J_aload_0 dX1_times_29 ?_
      refine J_get dX1_times_30 fl_X1_11 hc rfl ?_
      refine J_iload_4 dX1_times_33 ?_
      refine J_aald dX1_times_35 hf ⟨_, rfl⟩ rfl (by omega) (by decide) (hfe e (by omega)) ?_
      refine J_iload_2 dX1_times_36 ?_
      refine J_cV1i dX1_times_37 jmX2_times mv_X1_45 (hE e (by omega)).1 rfl (Nat.le_of_ble_eq_true rfl) (by decide) (c_etm (hE e (by omega)) hf0) ?_
      first | refine J_iaddN dX1_times_40 ?_ | refine J_iadd dX1_times_40 ?_
      refine J_istore_3 dX1_times_41 (Nat.le_of_ble_eq_true rfl) rfl ?_
      rw [show s + tms x r f e (k + 1) = s + tm (x e) f + tms x r f (e + 1) k from by rw [tms, if_pos c25]; omega]
      try rw [show s + tms x r f e (k + 1) = s + tms x r f (e + 1) k from by rw [tms, if_neg c25]; omega]
      first | refine J_inc_4 dX1_times_42 (Nat.le_of_ble_eq_true rfl) rfl ?_ | refine J_iinc_4 dX1_times_42 rfl (Nat.le_of_ble_eq_true rfl) rfl ?_
      refine J_goto (tgt := 5) dX1_times_45 (by decide) ?_
      exact ih (e + 1) _ (by omega)
theorem c_ctimes (hC : cutAt h c n x) {r f : Nat} (hr : r < 6) (hf0 : f < 300000) : CtI X mX1_times 2 [.ref c, .int (nI r), .int (nI f)] h (nI (tms x r f 0 n)) := by
  have e := l_times (X := X) hC hr hf0 n 0 0 (by omega)
  rw [Nat.zero_add] at e
  refine Ct_of jmX1_times [some (.ref c), some (.int (nI r)), some (.int (nI f)), none, none] (Nat.le_of_ble_eq_true rfl) rfl ?_
  show J X RX1 cX1_times 5 _ (some .int) _ 0 _ _ _
  refine J_iconst (v := nI 0) dX1_times_0 (by decide) ?_
  refine J_istore_3 dX1_times_1 (Nat.le_of_ble_eq_true rfl) rfl ?_
  refine J_iconst (v := nI 0) dX1_times_2 (by decide) ?_
  refine J_istore_4 dX1_times_3 (Nat.le_of_ble_eq_true rfl) rfl ?_
  exact e
end
