section
variable {X : Cx} {own : String} {cc : ByteArray} {nL d : Nat} {ret : Option FieldType} {Q : Option Value → HF → Prop} {pc : Nat} {ls : List (Option Value)} {st : List Value} {h : HF}
theorem J_look {dflt : Int} {ps : Array (Int × Int)} {len : Nat} {x : Int32} {off : Int} {tgt : Nat} (hd : decode cc pc = .ok (.lookupswitch dflt ps, len)) (hp : (ps.toList.zip (ps.toList.drop 1)).all (fun (a, next) => a.1 < next.1) = true) (ho : Op.lookupswitch.offset ps.toList dflt x.toInt = off) (ht : (pc : Int) + off = (tgt : Int)) (k : J X own cc nL d ret Q tgt ls st h) : J X own cc nL d ret Q pc ls (.int x :: st) h := by
  intro p l e R s m args below meth c kc ks Z C0 hR H locs la hl hP hS
  exact lv_lookup C0.1 C0.2.1 hd hp ho ht (k p l e R s m args below meth c kc ks Z C0 hR H locs la hl hP hS)
end
/-! both cuts COMPARED -/
theorem pick_congr {t : Int32} {w : Bool} {y : Nat → Nat} {x x' : Nat → Nat → Nat} : ∀ (k i : Nat), (∀ j, j < i + k → x j = x' j) → pick t w y x i k = pick t w y x' i k := by
  intro k
  induction k with
  | zero => intro i _; rfl
  | succ k ih =>
    intro i h
    rw [pick, pick, ih (i + 1) (fun j hj => h j (by omega)), h i (by omega)]
theorem tkF_agr {o : Option Nat} {f f' : Nat → Int32} {e : Nat} (h : ∀ j, j < 8 → f j = f' j) : ∀ j, j < 8 → tkF o f e j = tkF o f' e j := by
  intro j hj
  cases o with
  | none => exact h j hj
  | some i =>
    show upd f e (nI i) j = upd f' e (nI i) j
    unfold upd
    split
    · rfl
    · exact h j hj
theorem pas_congr {w : Bool} {x x' y y' : Nat → Nat → Nat} {n : Nat} (hx : ∀ j, j < n → x j = x' j) : ∀ (k e : Nat) (t : Int32) (f f' : Nat → Int32), e + k ≤ 8 → (∀ j, j < e + k → y j = y' j) → (∀ j, j < 8 → f j = f' j) → (pas w x y n e k (t, f)).1 = (pas w x' y' n e k (t, f')).1 ∧ ∀ j, j < 8 → (pas w x y n e k (t, f)).2 j = (pas w x' y' n e k (t, f')).2 j := by
  intro k
  induction k with
  | zero => intro e t f f' _ _ h; exact ⟨rfl, h⟩
  | succ k ih =>
    intro e t f f' he hy h
    have hp : pick t w (y e) x 0 n = pick t w (y' e) x' 0 n := by rw [hy e (by omega), pick_congr n 0 (fun j hj => hx j (by omega))]
    rw [pas, pas]
    dsimp only
    have he' := h e (by omega)
    by_cases q : f' e = -1
    · rw [if_pos q, if_pos (he'.trans q), hp]
      exact ih (e + 1) _ _ _ (by omega) (fun j hj => hy j (by omega)) (tkF_agr h)
    · rw [if_neg q, if_neg (fun z => q (he'.symm.trans z))]
      exact ih (e + 1) _ _ _ (by omega) (fun j hj => hy j (by omega)) h
theorem pas_val {w : Bool} {x y : Nat → Nat → Nat} {n : Nat} : ∀ (k e : Nat) (t : Int32) (f : Nat → Int32), (∀ j, f j = -1 ∨ ∃ i, i < n ∧ f j = nI i) → ∀ j, (pas w x y n e k (t, f)).2 j = -1 ∨ ∃ i, i < n ∧ (pas w x y n e k (t, f)).2 j = nI i := by
  intro k
  induction k with
  | zero => intro e t f h; exact h
  | succ k ih =>
    intro e t f h
    rw [pas]
    dsimp only
    split
    · refine ih (e + 1) _ _ (fun j => ?_)
      cases hq : pick t w (y e) x 0 n with
      | none => exact h j
      | some i =>
        have := pick_lt _ _ _ hq
        show upd f e (nI i) j = -1 ∨ ∃ i', i' < n ∧ upd f e (nI i) j = nI i'
        unfold upd
        split
        · exact Or.inr ⟨i, by omega, rfl⟩
        · exact h j
    · exact ih (e + 1) t f h
def prD (D : DS) : Int32 × (Nat → Int32) := prs (de D 0) (de D 1) (dn D 0) (dn D 1) (fun _ => -1)
def oP (D : DS) (e : Nat) : Int32 := (prD D).2 e
theorem oP_val (D : DS) (e : Nat) : oP D e = -1 ∨ ∃ i, i < dn D 0 ∧ oP D e = nI i := by
  unfold oP prD prs
  exact pas_val _ _ _ _ (pas_val _ _ _ _ (fun _ => Or.inl rfl)) e
def sKind (D : DS) (e : Nat) : Nat := if oP D e = -1 then 0 else if ¬ de D 1 e 2 = de D 0 (oP D e).toNatClampNeg 2 then 3 else if bg (de D 1) e = bg (de D 0) (oP D e).toNatClampNeg then 1 else 2
def sLater (D : DS) (e : Nat) : Int32 := if oP D e = -1 then 0 else nI (bg (de D 1) e) - nI (bg (de D 0) (oP D e).toNatClampNeg)
def sCmp (D : DS) (e w : Nat) : Int32 := if w = 0 then nI (sKind D e) else if w = 1 then oP D e else sLater D e
def sGone (D : DS) : Int32 := ((nI 1 <<< (nI (dn D 0) &&& 31)) - nI 1) &&& ((prD D).1 ^^^ -1)
def kpt (D : DS) (e k : Nat) : Nat := match k with
  | 0 => 0
  | k + 1 => (if sKind D e = 1 then 1 else 0) + kpt D (e + 1) k
/-- the object that tells which EDIT has which, as COMPARED -/
def mpAt (h : HF) (D : DS) : Prop := ∃ f, maAt h 11 (prD D).1 f ∧ ∀ j, j < 8 → f j = oP D j
section
variable {X : Cx} {h : HF} {D : DS} {ca : Nat → Nat} {xs : Nat → Nat → Nat → Nat}
theorem dk_ma (p : dkAt h D ca xs) {h' : HF} {t : Int32} {f : Nat → Int32} (ho : offB h h' 11 13) (q : maAt h' 11 t f) : dkAt h' D ca xs := by
  refine dk_off p (fun b hb => ho b (by omega)) ?_ ?_ ⟨t, f, q⟩
  · obtain ⟨n, g, z⟩ := p.2.2.2.2.2.2.2.2.2.1
    exact ⟨n, g, sp_other z (fun b l u => ho b (by omega))⟩
  · intro j hj
    obtain ⟨n, g, z⟩ := p.2.2.2.2.2.2.2.2.2.2.1 j hj
    exact ⟨n, g, sp_other z (fun b l u => ho b (by omega))⟩
theorem c_pairD (p : dkAt h D ca xs) : Ct X mX3_pair 3 [.ref 11, .ref (ca 0), .ref (ca 1)] h (fun r h' => r = none ∧ dkAt h' D ca xs ∧ mpAt h' D ∧ offB h h' 11 13) := by
  obtain ⟨h0, -, hca, hcut, -, -, -, -, -, -, -, ⟨t, f, hma⟩, hag, hd⟩ := id p
  have n1 := (hcut 1 (by decide)).2.2.2
  refine Ct.mono (c_pair (X := X) (by omega) (by omega) hma (hcut 0 (by decide)) (hcut 1 (by decide))) ?_
  rintro r h' ⟨e1, ⟨f0, hf0, q⟩, o⟩
  have a1 := pas_congr (w := true) (x := xs 0) (x' := de D 0) (y := xs 1) (y' := de D 1) (n := dn D 0) (fun j hj => hag 0 j (by decide) hj) (dn D 1) 0 0 f0 (fun _ => -1) (by omega) (fun j hj => hag 1 j (by decide) (by omega)) hf0
  have a2 := pas_congr (w := false) (x := xs 0) (x' := de D 0) (y := xs 1) (y' := de D 1) (n := dn D 0) (fun j hj => hag 0 j (by decide) hj) (dn D 1) 0 (pas true (xs 0) (xs 1) (dn D 0) 0 (dn D 1) (0, f0)).1 (pas true (xs 0) (xs 1) (dn D 0) 0 (dn D 1) (0, f0)).2 (pas true (de D 0) (de D 1) (dn D 0) 0 (dn D 1) (0, fun _ => -1)).2 (by omega) (fun j hj => hag 1 j (by decide) (by omega)) a1.2
  refine ⟨e1, dk_ma p o q, ⟨(prs (xs 0) (xs 1) (dn D 0) (dn D 1) f0).2, ?_, fun j hj => ?_⟩, o⟩
  · have e : (prs (xs 0) (xs 1) (dn D 0) (dn D 1) f0).1 = (prD D).1 := by
      refine Eq.trans a2.1 ?_
      rw [a1.1]
      rfl
    rw [← e]
    exact q
  · refine Eq.trans (a2.2 j hj) ?_
    rw [a1.1]
    rfl
theorem c_partner (q : mpAt h D) {e : Nat} (he : e < 8) : CtI X mX3_partner 1 [.ref 11, .int (nI e)] h (oP D e) := by
  obtain ⟨f, ⟨m0, m1⟩, hf⟩ := q
  rw [← hf e he]
  refine Ct_of jmX3_partner [some (.ref 11), some (.int (nI e))] (Nat.le_of_ble_eq_true rfl) rfl ?_
  show J X RX3 cX3_partner 2 _ (some .int) _ 0 _ _ _
  refine J_iload_1 dX3_partner_0 ?_
  refine J_bipush (v := nI 8) dX3_partner_1 (by decide) ?_
  refine J_cN2i dX3_partner_3 jmX6_isBelow ms_X3_51 (Nat.le_of_ble_eq_true rfl) (by decide) (c_below he (by decide)) ?_
  refine J_if_eq (tgt := 18) dX3_partner_6 (by decide) (fun c => absurd c (by decide)) (fun _ => ?_)
  refine J_aload_0 dX3_partner_9 ?_
  refine J_get dX3_partner_10 fl_X3_9 m0 rfl ?_
  refine J_iload_1 dX3_partner_13 ?_
  refine J_iald dX3_partner_14 m1 rfl (by omega) (by omega) ?_
  refine J_goto (tgt := 19) dX3_partner_15 (by decide) ?_
  exact J_iret dX3_partner_19 rfl (⟨rfl, rfl⟩)
theorem c_kind (p : dkAt h D ca xs) (q : mpAt h D) {e : Nat} (he : e < dn D 1) : CtI X mX3_kind 2 [.ref 11, .int (nI e), .ref (ca 0), .ref (ca 1)] h (nI (sKind D e)) := by
  obtain ⟨h0, -, hca, hcut, -, -, -, -, -, -, -, -, hag, hd⟩ := id p
  obtain ⟨f, ⟨m0, m1⟩, hf⟩ := id q
  have hC0 := hcut 0 (by decide)
  have hC1 := hcut 1 (by decide)
  obtain ⟨hc0, ⟨g0, hg0, hge0⟩, hE0, hn0⟩ := id hC0
  obtain ⟨hc1, ⟨g1, hg1, hge1⟩, hE1, hn1⟩ := id hC1
  have hcp := c_partner (X := X) q (e := e) (by omega)
  refine Ct_of jmX3_kind [some (.ref 11), some (.int (nI e)), some (.ref (ca 0)), some (.ref (ca 1)), none] (Nat.le_of_ble_eq_true rfl) rfl ?_
  show J X RX3 cX3_kind 5 _ (some .int) _ 0 _ _ _
  rcases oP_val D e with hq | ⟨i, hi, hq⟩
  · rw [hq] at hcp
    rw [show sKind D e = 0 from if_pos hq]
    refine J_aload_0 dX3_kind_0 ?_
    refine J_iload_1 dX3_kind_1 ?_
    refine J_cV1i dX3_kind_2 jmX3_partner mv_X3_55 m0 rfl (Nat.le_of_ble_eq_true rfl) (by decide) (hcp) ?_
    refine J_istore_4 dX3_kind_5 (Nat.le_of_ble_eq_true rfl) rfl ?_
    refine J_iload_4 dX3_kind_7 ?_
    refine J_aload_2 dX3_kind_9 ?_
    refine J_get dX3_kind_10 fl_X3_29 hc0 rfl ?_
    refine J_cN2i dX3_kind_13 jmX6_isBelow ms_X3_51 (Nat.le_of_ble_eq_true rfl) (by decide) (c_nbelow (v := -1) (fun z => absurd z.1 (by decide))) ?_
    refine J_if_eq (tgt := 30) dX3_kind_16 (by decide) (fun _ => ?_) (fun c => absurd (by decide) c)
    refine J_iconst (v := nI 0) dX3_kind_30 (by decide) ?_
    exact J_iret dX3_kind_31 rfl (⟨rfl, rfl⟩)
  · rw [hq] at hcp
    have hne : ¬ oP D e = -1 := by rw [hq]; exact oN_ne (by omega)
    have hcl : (oP D e).toNatClampNeg = i := by rw [hq]; exact nI_clamp (by omega)
    have hEi := hE0 i (by omega)
    have hEe := hE1 e (by omega)
    rw [hag 0 i (by decide) hi] at hEi
    rw [hag 1 e (by decide) he] at hEe
    have i3 := hEi.2.2.2.2.1
    have e3 := hEe.2.2.2.2.1
    have b0 := bg_le hC0 (e := i) (by omega)
    have b1 := bg_le hC1 (e := e) (by omega)
    have k0 := c_begin (X := X) hC0 (m := i) (by omega)
    have k1 := c_begin (X := X) hC1 (m := e) (by omega)
    rw [bg_congr (fun j hj => hag 0 j (by decide) (by omega))] at k0 b0
    rw [bg_congr (fun j hj => hag 1 j (by decide) (by omega))] at k1 b1
    have hEi1 := hEi.1
    have hEe1 := hEe.1
    have es : sKind D e = if ¬ de D 1 e 2 = de D 0 i 2 then 3 else if bg (de D 1) e = bg (de D 0) i then 1 else 2 := by unfold sKind; rw [if_neg hne, hcl]
    rw [es]
    refine J_aload_0 dX3_kind_0 ?_
    refine J_iload_1 dX3_kind_1 ?_
    refine J_cV1i dX3_kind_2 jmX3_partner mv_X3_55 m0 rfl (Nat.le_of_ble_eq_true rfl) (by decide) (hcp) ?_
    refine J_istore_4 dX3_kind_5 (Nat.le_of_ble_eq_true rfl) rfl ?_
    refine J_iload_4 dX3_kind_7 ?_
    refine J_aload_2 dX3_kind_9 ?_
    refine J_get dX3_kind_10 fl_X3_29 hc0 rfl ?_
    refine J_cN2i dX3_kind_13 jmX6_isBelow ms_X3_51 (Nat.le_of_ble_eq_true rfl) (by decide) (c_below hi (by omega)) ?_
    refine J_if_eq (tgt := 30) dX3_kind_16 (by decide) (fun c => absurd c (by decide)) (fun _ => ?_)
    refine J_iload_1 dX3_kind_19 ?_
    refine J_aload_3 dX3_kind_20 ?_
    refine J_get dX3_kind_21 fl_X3_29 hc1 rfl ?_
    refine J_cN2i dX3_kind_24 jmX6_isBelow ms_X3_51 (Nat.le_of_ble_eq_true rfl) (by decide) (c_below he (by omega)) ?_
    refine J_if_ne (tgt := 32) dX3_kind_27 (by decide) (fun _ => ?_) (fun c => absurd c (by decide))
    refine J_aload_3 dX3_kind_32 ?_
    refine J_get dX3_kind_33 fl_X3_34 hc1 rfl ?_
    refine J_iload_1 dX3_kind_36 ?_
    refine J_aald dX3_kind_37 hg1 ⟨_, rfl⟩ rfl (by omega) (by omega) (hge1 e (by omega)) ?_
    refine J_get dX3_kind_38 fl_X3_48 hEe1 rfl ?_
    refine J_aload_2 dX3_kind_41 ?_
    refine J_get dX3_kind_42 fl_X3_34 hc0 rfl ?_
    refine J_iload_4 dX3_kind_45 ?_
    refine J_aald dX3_kind_47 hg0 ⟨_, rfl⟩ rfl (by omega) (by omega) (hge0 i (by omega)) ?_
    refine J_get dX3_kind_48 fl_X3_48 hEi1 rfl ?_
    first | refine J_icmp_eqN (tgt := 56) dX3_kind_51 (by decide) (by omega) (by omega) (fun c51 => ?_) (fun c51 => ?_) | refine J_icmp_eq (tgt := 56) dX3_kind_51 (by decide) (fun c51 => ?_) (fun c51 => ?_)
    · refine J_aload_3 dX3_kind_56 ?_
      refine J_iload_1 dX3_kind_57 ?_
      refine J_cV1i dX3_kind_58 jmX1_begin mv_X3_59 hc1 rfl (Nat.le_of_ble_eq_true rfl) (by decide) (k1) ?_
      refine J_aload_2 dX3_kind_61 ?_
      refine J_iload_4 dX3_kind_62 ?_
      refine J_cV1i dX3_kind_64 jmX1_begin mv_X3_59 hc0 rfl (Nat.le_of_ble_eq_true rfl) (by decide) (k0) ?_
      first | refine J_icmp_neN (tgt := 74) dX3_kind_67 (by decide) (by omega) (by omega) (fun c67 => ?_) (fun c67 => ?_) | refine J_icmp_ne (tgt := 74) dX3_kind_67 (by decide) (fun c67 => ?_) (fun c67 => ?_)
      · refine J_iconst (v := nI 2) dX3_kind_74 (by decide) ?_
        exact J_iret dX3_kind_75 rfl (⟨by rw [if_neg (fun z => z c51)]; first | rw [if_pos c67] | rw [if_neg c67], rfl⟩)
      · refine J_iconst (v := nI 1) dX3_kind_70 (by decide) ?_
        refine J_goto (tgt := 75) dX3_kind_71 (by decide) ?_
        exact J_iret dX3_kind_75 rfl (⟨by rw [if_neg (fun z => z c51)]; first | rw [if_pos c67] | rw [if_neg c67], rfl⟩)
    · refine J_iconst (v := nI 3) dX3_kind_54 (by decide) ?_
      exact J_iret dX3_kind_55 rfl (⟨by rw [if_pos c51], rfl⟩)
theorem c_later (p : dkAt h D ca xs) (q : mpAt h D) {e : Nat} (he : e < dn D 1) : CtI X mX3_later 2 [.ref 11, .int (nI e), .ref (ca 0), .ref (ca 1)] h (sLater D e) := by
  obtain ⟨h0, -, hca, hcut, -, -, -, -, -, -, -, -, hag, hd⟩ := id p
  obtain ⟨f, ⟨m0, m1⟩, hf⟩ := id q
  have hC0 := hcut 0 (by decide)
  have hC1 := hcut 1 (by decide)
  have hc0 := hC0.1
  have hc1 := hC1.1
  have hn0 := hC0.2.2.2
  have hn1 := hC1.2.2.2
  have hcp := c_partner (X := X) q (e := e) (by omega)
  refine Ct_of jmX3_later [some (.ref 11), some (.int (nI e)), some (.ref (ca 0)), some (.ref (ca 1)), none] (Nat.le_of_ble_eq_true rfl) rfl ?_
  show J X RX3 cX3_later 5 _ (some .int) _ 0 _ _ _
  rcases oP_val D e with hq | ⟨i, hi, hq⟩
  · rw [hq] at hcp
    rw [show sLater D e = 0 from if_pos hq]
    refine J_aload_0 dX3_later_0 ?_
    refine J_iload_1 dX3_later_1 ?_
    refine J_cV1i dX3_later_2 jmX3_partner mv_X3_55 m0 rfl (Nat.le_of_ble_eq_true rfl) (by decide) (hcp) ?_
    refine J_istore_4 dX3_later_5 (Nat.le_of_ble_eq_true rfl) rfl ?_
    refine J_iload_4 dX3_later_7 ?_
    refine J_iconst (v := -1) dX3_later_9 (by decide) ?_
    refine J_icmp_ne (tgt := 17) dX3_later_10 (by decide) (fun c => absurd c (fun z => z rfl)) (fun _ => ?_)
    refine J_iconst (v := nI 0) dX3_later_13 (by decide) ?_
    refine J_goto (tgt := 29) dX3_later_14 (by decide) ?_
    exact J_iret dX3_later_29 rfl (⟨rfl, rfl⟩)
  · rw [hq] at hcp
    have hne : ¬ oP D e = -1 := by rw [hq]; exact oN_ne (by omega)
    have hcl : (oP D e).toNatClampNeg = i := by rw [hq]; exact nI_clamp (by omega)
    have k0 := c_begin (X := X) hC0 (m := i) (by omega)
    have k1 := c_begin (X := X) hC1 (m := e) (by omega)
    rw [bg_congr (fun j hj => hag 0 j (by decide) (by omega))] at k0
    rw [bg_congr (fun j hj => hag 1 j (by decide) (by omega))] at k1
    rw [show sLater D e = nI (bg (de D 1) e) - nI (bg (de D 0) i) from by unfold sLater; rw [if_neg hne, hcl]]
    refine J_aload_0 dX3_later_0 ?_
    refine J_iload_1 dX3_later_1 ?_
    refine J_cV1i dX3_later_2 jmX3_partner mv_X3_55 m0 rfl (Nat.le_of_ble_eq_true rfl) (by decide) (hcp) ?_
    refine J_istore_4 dX3_later_5 (Nat.le_of_ble_eq_true rfl) rfl ?_
    refine J_iload_4 dX3_later_7 ?_
    refine J_iconst (v := -1) dX3_later_9 (by decide) ?_
    refine J_icmp_ne (tgt := 17) dX3_later_10 (by decide) (fun _ => ?_) (fun c => absurd c (oN_ne (by omega)))
    refine J_aload_3 dX3_later_17 ?_
    refine J_iload_1 dX3_later_18 ?_
    refine J_cV1i dX3_later_19 jmX1_begin mv_X3_59 hc1 rfl (Nat.le_of_ble_eq_true rfl) (by decide) (k1) ?_
    refine J_aload_2 dX3_later_22 ?_
    refine J_iload_4 dX3_later_23 ?_
    refine J_cV1i dX3_later_25 jmX1_begin mv_X3_59 hc0 rfl (Nat.le_of_ble_eq_true rfl) (by decide) (k0) ?_
    refine J_isub dX3_later_28 ?_
    exact J_iret dX3_later_29 rfl (⟨rfl, rfl⟩)
theorem c_cmp_bad (p : dkAt h D ca xs) {e w : Int32} (hb : ¬ ∃ k u, k < dn D 1 ∧ u < 3 ∧ e = nI k ∧ w = nI u) : CtI X mX6_compare 4 [.ref 0, .int e, .int w] h (-2) := by
  have h0 := p.1
  refine Ct_of jmX6_compare [some (.ref 0), some (.int e), some (.int w)] (Nat.le_of_ble_eq_true rfl) rfl ?_
  show J X RX6 cX6_compare 3 _ (some .int) _ 0 _ _ _
  by_cases hE : ∃ j k, j < 2 ∧ k < dn D j ∧ nI 1 = nI j ∧ e = nI k
  · obtain ⟨j, k, hj, hk, h1, rfl⟩ := hE
    have hj1 : 1 = j := (nI_eq (by decide) (by omega)).mp h1
    subst hj1
    have hw : ¬ (0 ≤ w ∧ w < nI 3) := fun z => by
      rcases ix_cases w 3 (by decide) with ⟨u, hu, rfl⟩ | q
      · exact hb ⟨k, u, hk, hu, rfl, rfl⟩
      · exact q z
    refine J_aload_0 dX6_compare_0 ?_
    refine J_iconst (v := nI 1) dX6_compare_1 (by decide) ?_
    refine J_iload_1 dX6_compare_2 ?_
    refine J_cV2i dX6_compare_3 jmX6_isEdit mv_X6_80 h0 rfl (Nat.le_of_ble_eq_true rfl) (by decide) (c_isEditT p hj hk) ?_
    refine J_if_eq (tgt := 17) dX6_compare_6 (by decide) (fun c => absurd c (by decide)) (fun _ => ?_)
    refine J_iload_2 dX6_compare_9 ?_
    refine J_iconst (v := nI 3) dX6_compare_10 (by decide) ?_
    refine J_cS2i dX6_compare_11 jmX6_isBelow ms_X6_60 (Nat.le_of_ble_eq_true rfl) (by decide) (c_nbelow hw) ?_
    refine J_if_ne (tgt := 20) dX6_compare_14 (by decide) (fun c => absurd c (by decide)) (fun _ => ?_)
    refine J_bipush (v := -2) dX6_compare_17 (by decide) ?_
    exact J_iret dX6_compare_19 rfl (⟨rfl, rfl⟩)
  · refine J_aload_0 dX6_compare_0 ?_
    refine J_iconst (v := nI 1) dX6_compare_1 (by decide) ?_
    refine J_iload_1 dX6_compare_2 ?_
    refine J_cV2i dX6_compare_3 jmX6_isEdit mv_X6_80 h0 rfl (Nat.le_of_ble_eq_true rfl) (by decide) (c_isEditF p hE) ?_
    refine J_if_eq (tgt := 17) dX6_compare_6 (by decide) (fun _ => ?_) (fun c => absurd (by decide) c)
    refine J_bipush (v := -2) dX6_compare_17 (by decide) ?_
    exact J_iret dX6_compare_19 rfl (⟨rfl, rfl⟩)
theorem c_cmp_ok (p : dkAt h D ca xs) {e w : Nat} (he : e < dn D 1) (hw : w < 3) : Ct X mX6_compare 4 [.ref 0, .int (nI e), .int (nI w)] h (fun r h' => r = some (.int (sCmp D e w)) ∧ dkAt h' D ca xs ∧ offB h h' 0 51) := by
  obtain ⟨h0, ⟨fc, hfc, hfc0⟩, hca, hcut, -, -, -, -, -, -, -, ⟨tt, ff, hma⟩, hrest⟩ := id p
  have hn1 := (hcut 1 (by decide)).2.2.2
  have f0 := hfc0 0 (by decide)
  have f1 := hfc0 1 (by decide)
  have mm := hma.1
  refine Ct_of jmX6_compare [some (.ref 0), some (.int (nI e)), some (.int (nI w))] (Nat.le_of_ble_eq_true rfl) rfl ?_
  show J X RX6 cX6_compare 3 _ (some .int) _ 0 _ _ _
  rcases (show w = 0 ∨ w = 1 ∨ w = 2 by omega) with rfl | rfl | rfl
  · refine J_aload_0 dX6_compare_0 ?_
    refine J_iconst (v := nI 1) dX6_compare_1 (by decide) ?_
    refine J_iload_1 dX6_compare_2 ?_
    refine J_cV2i dX6_compare_3 jmX6_isEdit mv_X6_80 h0 rfl (Nat.le_of_ble_eq_true rfl) (by decide) (c_isEditT p (l := 1) (by decide) he) ?_
    refine J_if_eq (tgt := 17) dX6_compare_6 (by decide) (fun c => absurd c (by decide)) (fun _ => ?_)
    refine J_iload_2 dX6_compare_9 ?_
    refine J_iconst (v := nI 3) dX6_compare_10 (by decide) ?_
    refine J_cS2i dX6_compare_11 jmX6_isBelow ms_X6_60 (Nat.le_of_ble_eq_true rfl) (by decide) (c_below hw (by decide)) ?_
    refine J_if_ne (tgt := 20) dX6_compare_14 (by decide) (fun _ => ?_) (fun c => absurd c (by decide))
    refine J_aload_0 dX6_compare_20 ?_
    refine J_get dX6_compare_21 fl_X6_47 h0 rfl ?_
    refine J_aload_0 dX6_compare_24 ?_
    refine J_get dX6_compare_25 fl_X6_11 h0 rfl ?_
    refine J_iconst (v := nI 0) dX6_compare_28 (by decide) ?_
    refine J_aald dX6_compare_29 hfc ⟨_, rfl⟩ rfl (by omega) (by omega) f0 ?_
    refine J_aload_0 dX6_compare_30 ?_
    refine J_get dX6_compare_31 fl_X6_11 h0 rfl ?_
    refine J_iconst (v := nI 1) dX6_compare_34 (by decide) ?_
    refine J_aald dX6_compare_35 hfc ⟨_, rfl⟩ rfl (by omega) (by omega) f1 ?_
    refine J_cV2 dX6_compare_36 jmX3_pair mv_X6_234 mm rfl (Nat.le_of_ble_eq_true rfl) (by decide) (c_pairD p) (fun r h' q => ?_)
    obtain ⟨rfl, p2, mq, o2⟩ := q
    obtain ⟨k0, ⟨gc, hgc, hgc0⟩, -, -, hrest2⟩ := id p2
    have m2 := mq.choose_spec.1.1
    refine J_iload_2 dX6_compare_39 ?_
    refine J_look (off := 28) (tgt := 68) dX6_compare_40 (by decide) (by decide) (by decide) ?_
    refine J_aload_0 dX6_compare_68 ?_
    refine J_get dX6_compare_69 fl_X6_47 k0 rfl ?_
    refine J_iload_1 dX6_compare_72 ?_
    refine J_aload_0 dX6_compare_73 ?_
    refine J_get dX6_compare_74 fl_X6_11 k0 rfl ?_
    refine J_iconst (v := nI 0) dX6_compare_77 (by decide) ?_
    refine J_aald dX6_compare_78 hgc ⟨_, rfl⟩ rfl (by omega) (by omega) (hgc0 0 (by decide)) ?_
    refine J_aload_0 dX6_compare_79 ?_
    refine J_get dX6_compare_80 fl_X6_11 k0 rfl ?_
    refine J_iconst (v := nI 1) dX6_compare_83 (by decide) ?_
    refine J_aald dX6_compare_84 hgc ⟨_, rfl⟩ rfl (by omega) (by omega) (hgc0 1 (by decide)) ?_
    refine J_cV3i dX6_compare_85 jmX3_kind mv_X6_238 m2 rfl (Nat.le_of_ble_eq_true rfl) (by decide) (c_kind p2 mq he) ?_
    exact J_iret dX6_compare_88 rfl (⟨rfl, p2, o2.wide (by omega) (by omega)⟩)
  · refine J_aload_0 dX6_compare_0 ?_
    refine J_iconst (v := nI 1) dX6_compare_1 (by decide) ?_
    refine J_iload_1 dX6_compare_2 ?_
    refine J_cV2i dX6_compare_3 jmX6_isEdit mv_X6_80 h0 rfl (Nat.le_of_ble_eq_true rfl) (by decide) (c_isEditT p (l := 1) (by decide) he) ?_
    refine J_if_eq (tgt := 17) dX6_compare_6 (by decide) (fun c => absurd c (by decide)) (fun _ => ?_)
    refine J_iload_2 dX6_compare_9 ?_
    refine J_iconst (v := nI 3) dX6_compare_10 (by decide) ?_
    refine J_cS2i dX6_compare_11 jmX6_isBelow ms_X6_60 (Nat.le_of_ble_eq_true rfl) (by decide) (c_below hw (by decide)) ?_
    refine J_if_ne (tgt := 20) dX6_compare_14 (by decide) (fun _ => ?_) (fun c => absurd c (by decide))
    refine J_aload_0 dX6_compare_20 ?_
    refine J_get dX6_compare_21 fl_X6_47 h0 rfl ?_
    refine J_aload_0 dX6_compare_24 ?_
    refine J_get dX6_compare_25 fl_X6_11 h0 rfl ?_
    refine J_iconst (v := nI 0) dX6_compare_28 (by decide) ?_
    refine J_aald dX6_compare_29 hfc ⟨_, rfl⟩ rfl (by omega) (by omega) f0 ?_
    refine J_aload_0 dX6_compare_30 ?_
    refine J_get dX6_compare_31 fl_X6_11 h0 rfl ?_
    refine J_iconst (v := nI 1) dX6_compare_34 (by decide) ?_
    refine J_aald dX6_compare_35 hfc ⟨_, rfl⟩ rfl (by omega) (by omega) f1 ?_
    refine J_cV2 dX6_compare_36 jmX3_pair mv_X6_234 mm rfl (Nat.le_of_ble_eq_true rfl) (by decide) (c_pairD p) (fun r h' q => ?_)
    obtain ⟨rfl, p2, mq, o2⟩ := q
    obtain ⟨k0, ⟨gc, hgc, hgc0⟩, -, -, hrest2⟩ := id p2
    have m2 := mq.choose_spec.1.1
    refine J_iload_2 dX6_compare_39 ?_
    refine J_look (off := 49) (tgt := 89) dX6_compare_40 (by decide) (by decide) (by decide) ?_
    refine J_aload_0 dX6_compare_89 ?_
    refine J_get dX6_compare_90 fl_X6_47 k0 rfl ?_
    refine J_iload_1 dX6_compare_93 ?_
    refine J_cV1i dX6_compare_94 jmX3_partner mv_X6_242 m2 rfl (Nat.le_of_ble_eq_true rfl) (by decide) (c_partner mq (by omega)) ?_
    exact J_iret dX6_compare_97 rfl (⟨rfl, p2, o2.wide (by omega) (by omega)⟩)
  · refine J_aload_0 dX6_compare_0 ?_
    refine J_iconst (v := nI 1) dX6_compare_1 (by decide) ?_
    refine J_iload_1 dX6_compare_2 ?_
    refine J_cV2i dX6_compare_3 jmX6_isEdit mv_X6_80 h0 rfl (Nat.le_of_ble_eq_true rfl) (by decide) (c_isEditT p (l := 1) (by decide) he) ?_
    refine J_if_eq (tgt := 17) dX6_compare_6 (by decide) (fun c => absurd c (by decide)) (fun _ => ?_)
    refine J_iload_2 dX6_compare_9 ?_
    refine J_iconst (v := nI 3) dX6_compare_10 (by decide) ?_
    refine J_cS2i dX6_compare_11 jmX6_isBelow ms_X6_60 (Nat.le_of_ble_eq_true rfl) (by decide) (c_below hw (by decide)) ?_
    refine J_if_ne (tgt := 20) dX6_compare_14 (by decide) (fun _ => ?_) (fun c => absurd c (by decide))
    refine J_aload_0 dX6_compare_20 ?_
    refine J_get dX6_compare_21 fl_X6_47 h0 rfl ?_
    refine J_aload_0 dX6_compare_24 ?_
    refine J_get dX6_compare_25 fl_X6_11 h0 rfl ?_
    refine J_iconst (v := nI 0) dX6_compare_28 (by decide) ?_
    refine J_aald dX6_compare_29 hfc ⟨_, rfl⟩ rfl (by omega) (by omega) f0 ?_
    refine J_aload_0 dX6_compare_30 ?_
    refine J_get dX6_compare_31 fl_X6_11 h0 rfl ?_
    refine J_iconst (v := nI 1) dX6_compare_34 (by decide) ?_
    refine J_aald dX6_compare_35 hfc ⟨_, rfl⟩ rfl (by omega) (by omega) f1 ?_
    refine J_cV2 dX6_compare_36 jmX3_pair mv_X6_234 mm rfl (Nat.le_of_ble_eq_true rfl) (by decide) (c_pairD p) (fun r h' q => ?_)
    obtain ⟨rfl, p2, mq, o2⟩ := q
    obtain ⟨k0, ⟨gc, hgc, hgc0⟩, -, -, hrest2⟩ := id p2
    have m2 := mq.choose_spec.1.1
    refine J_iload_2 dX6_compare_39 ?_
    refine J_look (off := 58) (tgt := 98) dX6_compare_40 (by decide) (by decide) (by decide) ?_
    refine J_aload_0 dX6_compare_98 ?_
    refine J_get dX6_compare_99 fl_X6_47 k0 rfl ?_
    refine J_iload_1 dX6_compare_102 ?_
    refine J_aload_0 dX6_compare_103 ?_
    refine J_get dX6_compare_104 fl_X6_11 k0 rfl ?_
    refine J_iconst (v := nI 0) dX6_compare_107 (by decide) ?_
    refine J_aald dX6_compare_108 hgc ⟨_, rfl⟩ rfl (by omega) (by omega) (hgc0 0 (by decide)) ?_
    refine J_aload_0 dX6_compare_109 ?_
    refine J_get dX6_compare_110 fl_X6_11 k0 rfl ?_
    refine J_iconst (v := nI 1) dX6_compare_113 (by decide) ?_
    refine J_aald dX6_compare_114 hgc ⟨_, rfl⟩ rfl (by omega) (by omega) (hgc0 1 (by decide)) ?_
    refine J_cV3i dX6_compare_115 jmX3_later mv_X6_245 m2 rfl (Nat.le_of_ble_eq_true rfl) (by decide) (c_later p2 mq he) ?_
    exact J_iret dX6_compare_118 rfl (⟨rfl, p2, o2.wide (by omega) (by omega)⟩)
theorem c_gone (p : dkAt h D ca xs) : Ct X mX6_gone 4 [.ref 0] h (fun r h' => r = some (.int (sGone D)) ∧ dkAt h' D ca xs ∧ offB h h' 0 51) := by
  obtain ⟨h0, ⟨fc, hfc, hfc0⟩, hca, hcut, -, -, -, -, -, -, -, ⟨tt, ff, hma⟩, hrest⟩ := id p
  have f0 := hfc0 0 (by decide)
  have f1 := hfc0 1 (by decide)
  have mm := hma.1
  refine Ct_of jmX6_gone [some (.ref 0)] (Nat.le_of_ble_eq_true rfl) rfl ?_
  show J X RX6 cX6_gone 1 _ (some .int) _ 0 _ _ _
  refine J_aload_0 dX6_gone_0 ?_
  refine J_get dX6_gone_1 fl_X6_47 h0 rfl ?_
  refine J_aload_0 dX6_gone_4 ?_
  refine J_get dX6_gone_5 fl_X6_11 h0 rfl ?_
  refine J_iconst (v := nI 0) dX6_gone_8 (by decide) ?_
  refine J_aald dX6_gone_9 hfc ⟨_, rfl⟩ rfl (by omega) (by omega) f0 ?_
  refine J_aload_0 dX6_gone_10 ?_
  refine J_get dX6_gone_11 fl_X6_11 h0 rfl ?_
  refine J_iconst (v := nI 1) dX6_gone_14 (by decide) ?_
  refine J_aald dX6_gone_15 hfc ⟨_, rfl⟩ rfl (by omega) (by omega) f1 ?_
  refine J_cV2 dX6_gone_16 jmX3_pair mv_X6_234 mm rfl (Nat.le_of_ble_eq_true rfl) (by decide) (c_pairD p) (fun r h' q => ?_)
  obtain ⟨rfl, p2, mq, o2⟩ := q
  obtain ⟨k0, ⟨gc, hgc, hgc0⟩, -, hcut2, hrest2⟩ := id p2
  obtain ⟨mf, ⟨m2, m3⟩, -⟩ := id mq
  have hc2 := (hcut2 0 (by decide)).1
  refine J_iconst (v := nI 1) dX6_gone_19 (by decide) ?_
  refine J_aload_0 dX6_gone_20 ?_
  refine J_get dX6_gone_21 fl_X6_11 k0 rfl ?_
  refine J_iconst (v := nI 0) dX6_gone_24 (by decide) ?_
  refine J_aald dX6_gone_25 hgc ⟨_, rfl⟩ rfl (by omega) (by omega) (hgc0 0 (by decide)) ?_
  refine J_get dX6_gone_26 fl_X6_76 hc2 rfl ?_
  refine J_ishl dX6_gone_29 ?_
  refine J_iconst (v := nI 1) dX6_gone_30 (by decide) ?_
  refine J_isub dX6_gone_31 ?_
  refine J_aload_0 dX6_gone_32 ?_
  refine J_get dX6_gone_33 fl_X6_47 k0 rfl ?_
  refine J_get dX6_gone_36 fl_X6_248 m2 rfl ?_
  refine J_iconst (v := -1) dX6_gone_39 (by decide) ?_
  refine J_ixor dX6_gone_40 ?_
  refine J_iand dX6_gone_41 ?_
  exact J_iret dX6_gone_42 rfl (⟨rfl, p2, o2.wide (by omega) (by omega)⟩)
theorem l_kept {h : HF} {tot : Nat} : ∀ (k e s : Nat) (h1 : HF), e + k = dn D 1 → dkAt h1 D ca xs → mpAt h1 D → s + kpt D e k = tot → offB h h1 0 51 →
    J X RX6 cX6_keptEdits 3 4 (some .int) (fun r h' => r = some (.int (nI tot)) ∧ dkAt h' D ca xs ∧ offB h h' 0 51) 23 [some (.ref 0), some (.int (nI s)), some (.int (nI e))] [] h1 := by
  intro k
  induction k with
  | zero =>
    intro e s h1 he p mq hs ho
    obtain ⟨h0, ⟨fc, hfc, hfc0⟩, hca, hcut, hrest⟩ := id p
    have hc := (hcut 1 (by decide)).1
    have hn8 := (hcut 1 (by decide)).2.2.2
    have hs : s = tot := hs
    subst hs
    refine J_iload_2 dX6_keptEdits_23 ?_
    refine J_aload_0 dX6_keptEdits_24 ?_
    refine J_get dX6_keptEdits_25 fl_X6_11 h0 rfl ?_
    refine J_iconst (v := nI 1) dX6_keptEdits_28 (by decide) ?_
    refine J_aald dX6_keptEdits_29 hfc ⟨_, rfl⟩ rfl (by omega) (by omega) (hfc0 1 (by decide)) ?_
    refine J_get dX6_keptEdits_30 fl_X6_76 hc rfl ?_
    refine J_icmp_geN (tgt := 69) dX6_keptEdits_33 (by decide) (by omega) (by omega) (fun _ => ?_) (fun c => absurd c (by omega))
    refine J_iload_1 dX6_keptEdits_69 ?_
    exact J_iret dX6_keptEdits_70 rfl (⟨rfl, p, ho⟩)
  | succ k ih =>
    intro e s h1 he p mq hs ho
    obtain ⟨h0, ⟨fc, hfc, hfc0⟩, hca, hcut, hrest⟩ := id p
    obtain ⟨mf, ⟨m2, m3⟩, -⟩ := id mq
    have hc := (hcut 1 (by decide)).1
    have hn8 := (hcut 1 (by decide)).2.2.2
    have hk3 : sKind D e ≤ 3 := by unfold sKind; split <;> (try split) <;> (try split) <;> omega
    rw [kpt] at hs
    refine J_iload_2 dX6_keptEdits_23 ?_
    refine J_aload_0 dX6_keptEdits_24 ?_
    refine J_get dX6_keptEdits_25 fl_X6_11 h0 rfl ?_
    refine J_iconst (v := nI 1) dX6_keptEdits_28 (by decide) ?_
    refine J_aald dX6_keptEdits_29 hfc ⟨_, rfl⟩ rfl (by omega) (by omega) (hfc0 1 (by decide)) ?_
    refine J_get dX6_keptEdits_30 fl_X6_76 hc rfl ?_
    refine J_icmp_geN (tgt := 69) dX6_keptEdits_33 (by decide) (by omega) (by omega) (fun c => absurd c (by omega)) (fun _ => ?_)
    refine J_aload_0 dX6_keptEdits_36 ?_
    refine J_get dX6_keptEdits_37 fl_X6_47 h0 rfl ?_
    refine J_iload_2 dX6_keptEdits_40 ?_
    refine J_aload_0 dX6_keptEdits_41 ?_
    refine J_get dX6_keptEdits_42 fl_X6_11 h0 rfl ?_
    refine J_iconst (v := nI 0) dX6_keptEdits_45 (by decide) ?_
    refine J_aald dX6_keptEdits_46 hfc ⟨_, rfl⟩ rfl (by omega) (by omega) (hfc0 0 (by decide)) ?_
    refine J_aload_0 dX6_keptEdits_47 ?_
    refine J_get dX6_keptEdits_48 fl_X6_11 h0 rfl ?_
    refine J_iconst (v := nI 1) dX6_keptEdits_51 (by decide) ?_
    refine J_aald dX6_keptEdits_52 hfc ⟨_, rfl⟩ rfl (by omega) (by omega) (hfc0 1 (by decide)) ?_
    refine J_cV3i dX6_keptEdits_53 jmX3_kind mv_X6_238 m2 rfl (Nat.le_of_ble_eq_true rfl) (by decide) (c_kind p mq (by omega)) ?_
    refine J_iconst (v := nI 1) dX6_keptEdits_56 (by decide) ?_
    first | refine J_icmp_neN (tgt := 63) dX6_keptEdits_57 (by decide) (by omega) (by omega) (fun c57 => ?_) (fun c57 => ?_) | refine J_icmp_ne (tgt := 63) dX6_keptEdits_57 (by decide) (fun c57 => ?_) (fun c57 => ?_)
    · try rw [if_neg c57] at hs
      first | refine J_inc_2 dX6_keptEdits_63 (Nat.le_of_ble_eq_true rfl) rfl ?_ | refine J_iinc_2 dX6_keptEdits_63 rfl (Nat.le_of_ble_eq_true rfl) rfl ?_
      refine J_goto (tgt := 23) dX6_keptEdits_66 (by decide) ?_
      exact ih (e + 1) _ h1 (by omega) p mq (by omega) ho
    · rw [if_pos c57] at hs
      first | refine J_inc_1 dX6_keptEdits_60 (Nat.le_of_ble_eq_true rfl) rfl ?_ | refine J_iinc_1 dX6_keptEdits_60 rfl (Nat.le_of_ble_eq_true rfl) rfl ?_
      try rw [if_neg c57] at hs
      first | refine J_inc_2 dX6_keptEdits_63 (Nat.le_of_ble_eq_true rfl) rfl ?_ | refine J_iinc_2 dX6_keptEdits_63 rfl (Nat.le_of_ble_eq_true rfl) rfl ?_
      refine J_goto (tgt := 23) dX6_keptEdits_66 (by decide) ?_
      exact ih (e + 1) _ h1 (by omega) p mq (by omega) ho
theorem c_kept (p : dkAt h D ca xs) : Ct X mX6_keptEdits 4 [.ref 0] h (fun r h' => r = some (.int (nI (kpt D 0 (dn D 1)))) ∧ dkAt h' D ca xs ∧ offB h h' 0 51) := by
  obtain ⟨h0, ⟨fc, hfc, hfc0⟩, hca, hcut, -, -, -, -, -, -, -, ⟨tt, ff, hma⟩, hrest⟩ := id p
  have f0 := hfc0 0 (by decide)
  have f1 := hfc0 1 (by decide)
  have mm := hma.1
  refine Ct_of jmX6_keptEdits [some (.ref 0), none, none] (Nat.le_of_ble_eq_true rfl) rfl ?_
  show J X RX6 cX6_keptEdits 3 _ (some .int) _ 0 _ _ _
  refine J_aload_0 dX6_keptEdits_0 ?_
  refine J_get dX6_keptEdits_1 fl_X6_47 h0 rfl ?_
  refine J_aload_0 dX6_keptEdits_4 ?_
  refine J_get dX6_keptEdits_5 fl_X6_11 h0 rfl ?_
  refine J_iconst (v := nI 0) dX6_keptEdits_8 (by decide) ?_
  refine J_aald dX6_keptEdits_9 hfc ⟨_, rfl⟩ rfl (by omega) (by omega) f0 ?_
  refine J_aload_0 dX6_keptEdits_10 ?_
  refine J_get dX6_keptEdits_11 fl_X6_11 h0 rfl ?_
  refine J_iconst (v := nI 1) dX6_keptEdits_14 (by decide) ?_
  refine J_aald dX6_keptEdits_15 hfc ⟨_, rfl⟩ rfl (by omega) (by omega) f1 ?_
  refine J_cV2 dX6_keptEdits_16 jmX3_pair mv_X6_234 mm rfl (Nat.le_of_ble_eq_true rfl) (by decide) (c_pairD p) (fun r h' q => ?_)
  obtain ⟨rfl, p2, mq, o2⟩ := q
  refine J_iconst (v := nI 0) dX6_keptEdits_19 (by decide) ?_
  refine J_istore_1 dX6_keptEdits_20 (Nat.le_of_ble_eq_true rfl) rfl ?_
  refine J_iconst (v := nI 0) dX6_keptEdits_21 (by decide) ?_
  refine J_istore_2 dX6_keptEdits_22 (Nat.le_of_ble_eq_true rfl) rfl ?_
  exact l_kept (dn D 1) 0 0 h' (by omega) p2 mq (Nat.zero_add _) (o2.wide (by omega) (by omega))
end
