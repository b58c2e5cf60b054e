theorem isub_toInt {x y : Int32} (h1 : -(2 ^ 30) ≤ x.toInt) (h2 : x.toInt < 2 ^ 30) (h3 : -(2 ^ 30) ≤ y.toInt) (h4 : y.toInt < 2 ^ 30) : (x - y).toInt = x.toInt - y.toInt := by
  rw [Int32.toInt_sub]
  apply Int.bmod_eq_of_le <;> omega
theorem gapI {f l w : Nat} (hf : f < 2 ^ 20) (hl : l < 2 ^ 20) (hw : w < 2 ^ 20) : nI w < nI f - nI l - nI 1 ↔ l + 1 + w < f := by
  have e1 : (nI f - nI l).toInt = (f : Int) - l := pk_sub_toInt (by omega) (by omega)
  have e2 : (nI 1).toInt = 1 := by decide
  have e3 : (nI f - nI l - nI 1).toInt = (f : Int) - l - 1 := by
    rw [isub_toInt (by rw [e1]; omega) (by rw [e1]; omega) (by rw [e2]; omega) (by rw [e2]; omega), e1, e2]
  rw [Int32.lt_iff_toInt_lt, e3, nI_toInt (by omega)]
  omega
theorem maxN {a b : Nat} (ha : a < 2 ^ 31) (hb : b < 2 ^ 31) : (if nI a < nI b then nI b else nI a) = nI (max a b) := by
  by_cases h : a < b
  · rw [if_pos ((nI_ltI ha hb).mpr h), Nat.max_eq_right (Nat.le_of_lt h)]
  · rw [if_neg (fun z => h ((nI_ltI ha hb).mp z)), Nat.max_eq_left (Nat.le_of_not_lt h)]
theorem minN {a b : Nat} (ha : a < 2 ^ 31) (hb : b < 2 ^ 31) : (if nI b < nI a then nI b else nI a) = nI (min a b) := by
  by_cases h : b < a
  · rw [if_pos ((nI_ltI hb ha).mpr h), Nat.min_eq_right (Nat.le_of_lt h)]
  · rw [if_neg (fun z => h ((nI_ltI hb ha).mp z)), Nat.min_eq_left (Nat.le_of_not_lt h)]
/-- two spans as one -/
def mrg (v w : Nat → Nat) : Nat → Nat := fun j => if j = 2 then max (v 2) (w 2) else if j = 3 then v 3 ||| w 3 else v j
def jnA (near k i m : Nat) (g : Nat → Nat → Nat) : (Nat → Nat → Nat) × Nat := match k with
  | 0 => (g, m)
  | k + 1 => if 0 < m ∧ g (m - 1) 0 = g i 0 ∧ g i 1 ≤ g (m - 1) 2 + 1 + near then jnA near k (i + 1) m (eset g (m - 1) (mrg (g (m - 1)) (g i))) else jnA near k (i + 1) (m + 1) (eset g m (g i))
theorem eset_same0 {g : Nat → Nat → Nat} {i k : Nat} {v : Nat → Nat} (e : v k = g i k) : (fun j => nI (eset g i v j k)) = fun j => nI (g j k) := by
  funext j
  unfold eset
  split
  · rename_i q; rw [q, e]
  · rfl
theorem sp_mrg {h : HF} {a cap n i : Nat} {g : Nat → Nat → Nat} {v : Nat → Nat} (p : spAt h a cap n g) (e0 : v 0 = g i 0) (e1 : v 1 = g i 1) : spAt (hu (hu h (a + 3) (oA 0 cap (upd (fun j => nI (g j 2)) i (nI (v 2))))) (a + 4) (oA 0 cap (upd (fun j => nI (g j 3)) i (nI (v 3))))) a cap n (eset g i v) := by
  obtain ⟨h0, h1, h2, h3, h4, h5⟩ := p
  rw [upd_eset, upd_eset]
  refine ⟨hAt_ne (hAt_ne h0 (by omega)) (by omega), ?_, ?_, hAt_ne (hAt_s h3.1) (by omega), hAt_s h4.1, h5⟩
  · rw [eset_same0 e0]
    exact hAt_ne (hAt_ne h1 (by omega)) (by omega)
  · rw [eset_same0 e1]
    exact hAt_ne (hAt_ne h2 (by omega)) (by omega)
theorem spB_eset {g : Nat → Nat → Nat} {n i : Nat} {v : Nat → Nat} (hb : spB g n) (hv : v 0 < 2 ^ 20 ∧ v 1 < 2 ^ 20 ∧ v 2 < 2 ^ 20 ∧ v 3 < 2 ^ 20) : spB (eset g i v) n := by
  intro j hj
  by_cases q : j = i
  · subst q; rw [eset_s]; exact hv
  · rw [eset_n q]; exact hb j hj
theorem or_lt20 {a b : Nat} (ha : a < 2 ^ 20) (hb : b < 2 ^ 20) : a ||| b < 2 ^ 20 := Nat.or_lt_two_pow ha hb
theorem mrg_b {v w : Nat → Nat} (hv : v 0 < 2 ^ 20 ∧ v 1 < 2 ^ 20 ∧ v 2 < 2 ^ 20 ∧ v 3 < 2 ^ 20) (hw : w 0 < 2 ^ 20 ∧ w 1 < 2 ^ 20 ∧ w 2 < 2 ^ 20 ∧ w 3 < 2 ^ 20) : mrg v w 0 < 2 ^ 20 ∧ mrg v w 1 < 2 ^ 20 ∧ mrg v w 2 < 2 ^ 20 ∧ mrg v w 3 < 2 ^ 20 :=
  ⟨hv.1, hv.2.1, Nat.max_lt.mpr ⟨hv.2.2.1, hw.2.2.1⟩, or_lt20 hv.2.2.2 hw.2.2.2⟩
section
variable {X : Cx} {own : String} {cc : ByteArray} {nL d : Nat} {ret : Option FieldType} {Q : Option Value → HF → Prop} {pc : Nat} {ls : List (Option Value)} {st : List Value} {h : HF}
theorem J_mmaxN {idx a b : Nat} (hd : decode cc pc = .ok (.invokestatic idx, 3)) (hm : Cond.methodLink own idx Lib.Math.max.name ∈ jtb) (hd0 : 0 < d) (hw : (st.map fun v => v.category).sum ≤ 8) (ha : a < 2 ^ 31) (hb : b < 2 ^ 31) (k : J X own cc nL d ret Q (pc + 3) ls (.int (nI (max a b)) :: st) h) : J X own cc nL d ret Q pc ls (.int (nI b) :: .int (nI a) :: st) h := J_mmax hd hm hd0 hw (J_topi (maxN ha hb) k)
theorem J_mminN {idx a b : Nat} (hd : decode cc pc = .ok (.invokestatic idx, 3)) (hm : Cond.methodLink own idx Lib.Math.min.name ∈ jtb) (hd0 : 0 < d) (hw : (st.map fun v => v.category).sum ≤ 8) (ha : a < 2 ^ 31) (hb : b < 2 ^ 31) (k : J X own cc nL d ret Q (pc + 3) ls (.int (nI (min a b)) :: st) h) : J X own cc nL d ret Q pc ls (.int (nI b) :: .int (nI a) :: st) h := J_mmin hd hm hd0 hw (J_topi (minN ha hb) k)
theorem J_iorN {a b : Nat} (hd : decode cc pc = .ok (.ior, 1)) (k : J X own cc nL d ret Q (pc + 1) ls (.int (nI (a ||| b)) :: st) h) : J X own cc nL d ret Q pc ls (.int (nI b) :: .int (nI a) :: st) h := J_ior hd (J_topi (fa_or a b) k)
end
section
variable {X : Cx} {h : HF} {a cap n : Nat} {g : Nat → Nat → Nat}
theorem c_spAppNo {v0 v1 v2 : Int32} (hlt : v2 < v1) : Ct X mX5_append 1 [.ref a, .int v0, .int v1, .int v2] h (fun r h' => r = none ∧ h' = h) := by
  refine Ct_of jmX5_append [some (.ref a), some (.int v0), some (.int v1), some (.int v2)] (Nat.le_of_ble_eq_true rfl) rfl ?_
  show J X RX5 cX5_append 4 _ none _ 0 _ _ _
  refine J_iload_2 dX5_append_0 ?_
  refine J_iload_3 dX5_append_1 ?_
  refine J_icmp_gt (tgt := 34) dX5_append_2 (by decide) (fun _ => ?_) (fun c => absurd hlt c)
  exact J_vret dX5_append_34 rfl (⟨rfl, rfl⟩)
theorem c_spApp (p : spAt h a cap n g) {v : Nat → Nat} (hv : v 1 ≤ v 2) (b : v 2 < 2 ^ 20) (hn : n < cap) (e3 : v 3 = 0) : Ct X mX5_append 1 [.ref a, .int (nI (v 0)), .int (nI (v 1)), .int (nI (v 2))] h (fun r h' => r = none ∧ spAt h' a cap (n + 1) (eset g n v) ∧ offB h h' a (a + 5)) := by
  have h0 := p.1
  have hf := c_spFull (X := X) p
  rw [bI_f (by omega)] at hf
  have hfl := c_spFill (X := X) (v := v) (i := n) p hn
  rw [e3] at hfl
  refine Ct_of jmX5_append [some (.ref a), some (.int (nI (v 0))), some (.int (nI (v 1))), some (.int (nI (v 2)))] (Nat.le_of_ble_eq_true rfl) rfl ?_
  show J X RX5 cX5_append 4 _ none _ 0 _ _ _
  refine J_iload_2 dX5_append_0 ?_
  refine J_iload_3 dX5_append_1 ?_
  refine J_icmp_gtN (tgt := 34) dX5_append_2 (by decide) (by omega) (by omega) (fun c => absurd c (by omega)) (fun _ => ?_)
  refine J_aload_0 dX5_append_5 ?_
  refine J_cV0i dX5_append_6 jmX5_isFull mv_X5_28 h0 rfl (Nat.le_of_ble_eq_true rfl) (by decide) (hf) ?_
  refine J_if_ne (tgt := 34) dX5_append_9 (by decide) (fun c => absurd c (by decide)) (fun _ => ?_)
  refine J_aload_0 dX5_append_12 ?_
  refine J_aload_0 dX5_append_13 ?_
  refine J_get dX5_append_14 fl_X5_24 h0 rfl ?_
  refine J_iload_1 dX5_append_17 ?_
  refine J_iload_2 dX5_append_18 ?_
  refine J_iload_3 dX5_append_19 ?_
  refine J_iconst (v := nI 0) dX5_append_20 (by decide) ?_
  refine J_cV5 dX5_append_21 jmX5_fill mv_X5_40 h0 rfl (Nat.le_of_ble_eq_true rfl) (by decide) (hfl) (fun r h' q => ?_)
  obtain ⟨rfl, p2, o2⟩ := q
  have h02 := p2.1
  refine J_aload_0 dX5_append_24 ?_
  refine J_dup dX5_append_25 rfl ?_
  refine J_get dX5_append_26 fl_X5_24 h02 rfl ?_
  refine J_iconst (v := nI 1) dX5_append_29 (by decide) ?_
  first | refine J_iaddN dX5_append_30 ?_ | refine J_iadd dX5_append_30 ?_
  refine J_put dX5_append_31 fp_X5_24 h02 (Nat.le_of_ble_eq_true rfl) rfl rfl ?_
  exact J_vret dX5_append_34 rfl (⟨rfl, sp_setN p2 hn, o2.hu (by omega) (by omega)⟩)
theorem l_join {near : Nat} (hw : near < 2 ^ 20) : ∀ (k i m : Nat) (h1 : HF) (g : Nat → Nat → Nat), i + k = n → m ≤ i → spAt h1 a cap n g → spB g n → offB h h1 a (a + 5) →
    J X RX5 cX5_join 4 1 none (fun r h' => r = none ∧ (∃ g' m', (g', m') = jnA near k i m g ∧ spAt h' a cap m' g' ∧ m' ≤ n) ∧ offB h h' a (a + 5)) 4 [some (.ref a), some (.int (nI near)), some (.int (nI m)), some (.int (nI i))] [] h1 := by
  intro k
  induction k with
  | zero =>
    intro i m h1 g hi hmi p hb ho
    have h0 := p.1
    have hcap := p.2.2.2.2.2
    refine J_iload_3 dX5_join_4 ?_
    refine J_aload_0 dX5_join_5 ?_
    refine J_get dX5_join_6 fl_X5_24 h0 rfl ?_
    refine J_icmp_geN (tgt := 114) dX5_join_9 (by decide) (by omega) (by omega) (fun _ => ?_) (fun c => absurd c (by omega))
    refine J_aload_0 dX5_join_114 ?_
    refine J_iload_2 dX5_join_115 ?_
    refine J_put dX5_join_116 fp_X5_24 h0 (Nat.le_of_ble_eq_true rfl) rfl rfl ?_
    exact J_vret dX5_join_119 rfl (⟨rfl, ⟨_, _, rfl, sp_setN p (by omega), by omega⟩, ho.hu (by omega) (by omega)⟩)
  | succ k ih =>
    intro i m h1 g hi hmi p hb ho
    obtain ⟨h0, p1, p2, p3, p4, hn, hcap⟩ := id p
    obtain ⟨i0, i1, i2, i3⟩ := hb i (by omega)
    by_cases hc : 0 < m ∧ g (m - 1) 0 = g i 0 ∧ g i 1 ≤ g (m - 1) 2 + 1 + near
    · have e : jnA near (k + 1) i m g = jnA near k (i + 1) m (eset g (m - 1) (mrg (g (m - 1)) (g i))) := if_pos hc
      rw [e]
      obtain ⟨j0, j1, j2, j3⟩ := hb (m - 1) (by omega)
      have hg : ¬ nI near < nI (g i 1) - nI (g (m - 1) 2) - nI 1 := fun z => by
        have z := (gapI i1 j2 hw).mp z
        omega
      refine J_iload_3 dX5_join_4 ?_
      refine J_aload_0 dX5_join_5 ?_
      refine J_get dX5_join_6 fl_X5_24 h0 rfl ?_
      refine J_icmp_geN (tgt := 114) dX5_join_9 (by decide) (by omega) (by omega) (fun c => absurd c (by omega)) (fun _ => ?_)
      refine J_iload_2 dX5_join_12 ?_
      refine J_if_leN (tgt := 99) dX5_join_13 (by decide) (by omega) (fun c => absurd c (by omega)) (fun _ => ?_)
      refine J_aload_0 dX5_join_16 ?_
      refine J_get dX5_join_17 fl_X5_9 h0 rfl ?_
      refine J_iload_2 dX5_join_20 ?_
      refine J_iconst (v := nI 1) dX5_join_21 (by decide) ?_
      first | refine J_isubN dX5_join_22 (by omega) ?_ | refine J_isub dX5_join_22 ?_
      refine J_iald dX5_join_23 p1 rfl (by omega) (by omega) ?_
      refine J_aload_0 dX5_join_24 ?_
      refine J_get dX5_join_25 fl_X5_9 h0 rfl ?_
      refine J_iload_3 dX5_join_28 ?_
      refine J_iald dX5_join_29 p1 rfl (by omega) (by omega) ?_
      refine J_icmp_neN (tgt := 99) dX5_join_30 (by decide) (by omega) (by omega) (fun c => absurd c (by omega)) (fun _ => ?_)
      refine J_aload_0 dX5_join_33 ?_
      refine J_get dX5_join_34 fl_X5_15 h0 rfl ?_
      refine J_iload_3 dX5_join_37 ?_
      refine J_iald dX5_join_38 p2 rfl (by omega) (by omega) ?_
      refine J_aload_0 dX5_join_39 ?_
      refine J_get dX5_join_40 fl_X5_18 h0 rfl ?_
      refine J_iload_2 dX5_join_43 ?_
      refine J_iconst (v := nI 1) dX5_join_44 (by decide) ?_
      first | refine J_isubN dX5_join_45 (by omega) ?_ | refine J_isub dX5_join_45 ?_
      refine J_iald dX5_join_46 p3 rfl (by omega) (by omega) ?_
      refine J_isub dX5_join_47 ?_
      refine J_iconst (v := nI 1) dX5_join_48 (by decide) ?_
      refine J_isub dX5_join_49 ?_
      refine J_iload_1 dX5_join_50 ?_
      refine J_icmp_gt (tgt := 99) dX5_join_51 (by decide) (fun c => absurd c hg) (fun _ => ?_)
      refine J_aload_0 dX5_join_54 ?_
      refine J_get dX5_join_55 fl_X5_18 h0 rfl ?_
      refine J_iload_2 dX5_join_58 ?_
      refine J_iconst (v := nI 1) dX5_join_59 (by decide) ?_
      first | refine J_isubN dX5_join_60 (by omega) ?_ | refine J_isub dX5_join_60 ?_
      refine J_aload_0 dX5_join_61 ?_
      refine J_get dX5_join_62 fl_X5_18 h0 rfl ?_
      refine J_iload_2 dX5_join_65 ?_
      refine J_iconst (v := nI 1) dX5_join_66 (by decide) ?_
      first | refine J_isubN dX5_join_67 (by omega) ?_ | refine J_isub dX5_join_67 ?_
      refine J_iald dX5_join_68 p3 rfl (by omega) (by omega) ?_
      refine J_aload_0 dX5_join_69 ?_
      refine J_get dX5_join_70 fl_X5_18 h0 rfl ?_
      refine J_iload_3 dX5_join_73 ?_
      refine J_iald dX5_join_74 p3 rfl (by omega) (by omega) ?_
      refine J_mmaxN dX5_join_75 ms_X5_44 (by decide) (Nat.le_of_ble_eq_true rfl) (by omega) (by omega) ?_
      refine J_iast dX5_join_78 p3 rfl (by omega) (by omega) ?_
      refine J_aload_0 dX5_join_79 ?_
      refine J_get dX5_join_80 fl_X5_21 (hAt_ne h0 (by omega)) rfl ?_
      refine J_iload_2 dX5_join_83 ?_
      refine J_iconst (v := nI 1) dX5_join_84 (by decide) ?_
      first | refine J_isubN dX5_join_85 (by omega) ?_ | refine J_isub dX5_join_85 ?_
      refine J_dup2 dX5_join_86 rfl rfl ?_
      refine J_iald dX5_join_87 (hAt_ne p4 (by omega)) rfl (by omega) (by omega) ?_
      refine J_aload_0 dX5_join_88 ?_
      refine J_get dX5_join_89 fl_X5_21 (hAt_ne h0 (by omega)) rfl ?_
      refine J_iload_3 dX5_join_92 ?_
      refine J_iald dX5_join_93 (hAt_ne p4 (by omega)) rfl (by omega) (by omega) ?_
      refine J_iorN dX5_join_94 ?_
      refine J_iast dX5_join_95 (hAt_ne p4 (by omega)) rfl (by omega) (by omega) ?_
      refine J_goto (tgt := 108) dX5_join_96 (by decide) ?_
      first | refine J_inc_3 dX5_join_108 (Nat.le_of_ble_eq_true rfl) rfl ?_ | refine J_iinc_3 dX5_join_108 rfl (Nat.le_of_ble_eq_true rfl) rfl ?_
      refine J_goto (tgt := 4) dX5_join_111 (by decide) ?_
      exact ih (i + 1) m _ _ (by omega) (by omega) (sp_mrg (v := mrg (g (m - 1)) (g i)) p rfl rfl) (spB_eset hb (mrg_b ⟨j0, j1, j2, j3⟩ ⟨i0, i1, i2, i3⟩)) ((ho.hu (by omega) (by omega)).hu (by omega) (by omega))
    · have e : jnA near (k + 1) i m g = jnA near k (i + 1) (m + 1) (eset g m (g i)) := if_neg hc
      rw [e]
      have hmv := c_spMove (X := X) p (i := i) (j := m) (by omega) (by omega)
      by_cases hm0 : 0 < m
      · obtain ⟨j0, j1, j2, j3⟩ := hb (m - 1) (by omega)
        refine J_iload_3 dX5_join_4 ?_
        refine J_aload_0 dX5_join_5 ?_
        refine J_get dX5_join_6 fl_X5_24 h0 rfl ?_
        refine J_icmp_geN (tgt := 114) dX5_join_9 (by decide) (by omega) (by omega) (fun c => absurd c (by omega)) (fun _ => ?_)
        refine J_iload_2 dX5_join_12 ?_
        refine J_if_leN (tgt := 99) dX5_join_13 (by decide) (by omega) (fun c => absurd c (by omega)) (fun _ => ?_)
        refine J_aload_0 dX5_join_16 ?_
        refine J_get dX5_join_17 fl_X5_9 h0 rfl ?_
        refine J_iload_2 dX5_join_20 ?_
        refine J_iconst (v := nI 1) dX5_join_21 (by decide) ?_
        first | refine J_isubN dX5_join_22 (by omega) ?_ | refine J_isub dX5_join_22 ?_
        refine J_iald dX5_join_23 p1 rfl (by omega) (by omega) ?_
        refine J_aload_0 dX5_join_24 ?_
        refine J_get dX5_join_25 fl_X5_9 h0 rfl ?_
        refine J_iload_3 dX5_join_28 ?_
        refine J_iald dX5_join_29 p1 rfl (by omega) (by omega) ?_
        first | refine J_icmp_neN (tgt := 99) dX5_join_30 (by decide) (by omega) (by omega) (fun c30 => ?_) (fun c30 => ?_) | refine J_icmp_ne (tgt := 99) dX5_join_30 (by decide) (fun c30 => ?_) (fun c30 => ?_)
        · refine J_aload_0 dX5_join_99 ?_
          refine J_iload_3 dX5_join_100 ?_
          refine J_iload_2 dX5_join_101 ?_
          refine J_cV2 dX5_join_102 jmX5_move mv_X5_36 h0 rfl (Nat.le_of_ble_eq_true rfl) (by decide) (hmv) (fun r h' q => ?_)
          obtain ⟨rfl, q2, o2⟩ := q
          first | refine J_inc_2 dX5_join_105 (Nat.le_of_ble_eq_true rfl) rfl ?_ | refine J_iinc_2 dX5_join_105 rfl (Nat.le_of_ble_eq_true rfl) rfl ?_
          first | refine J_inc_3 dX5_join_108 (Nat.le_of_ble_eq_true rfl) rfl ?_ | refine J_iinc_3 dX5_join_108 rfl (Nat.le_of_ble_eq_true rfl) rfl ?_
          refine J_goto (tgt := 4) dX5_join_111 (by decide) ?_
          exact ih (i + 1) (m + 1) _ _ (by omega) (by omega) q2 (spB_eset hb ⟨i0, i1, i2, i3⟩) (ho.tr o2)
        · refine J_aload_0 dX5_join_33 ?_
          refine J_get dX5_join_34 fl_X5_15 h0 rfl ?_
          refine J_iload_3 dX5_join_37 ?_
          refine J_iald dX5_join_38 p2 rfl (by omega) (by omega) ?_
          refine J_aload_0 dX5_join_39 ?_
          refine J_get dX5_join_40 fl_X5_18 h0 rfl ?_
          refine J_iload_2 dX5_join_43 ?_
          refine J_iconst (v := nI 1) dX5_join_44 (by decide) ?_
          first | refine J_isubN dX5_join_45 (by omega) ?_ | refine J_isub dX5_join_45 ?_
          refine J_iald dX5_join_46 p3 rfl (by omega) (by omega) ?_
          refine J_isub dX5_join_47 ?_
          refine J_iconst (v := nI 1) dX5_join_48 (by decide) ?_
          refine J_isub dX5_join_49 ?_
          refine J_iload_1 dX5_join_50 ?_
          refine J_icmp_gt (tgt := 99) dX5_join_51 (by decide) (fun _ => ?_) (fun c => absurd ((gapI i1 j2 hw).mpr (by omega)) c)
          refine J_aload_0 dX5_join_99 ?_
          refine J_iload_3 dX5_join_100 ?_
          refine J_iload_2 dX5_join_101 ?_
          refine J_cV2 dX5_join_102 jmX5_move mv_X5_36 h0 rfl (Nat.le_of_ble_eq_true rfl) (by decide) (hmv) (fun r h' q => ?_)
          obtain ⟨rfl, q2, o2⟩ := q
          first | refine J_inc_2 dX5_join_105 (Nat.le_of_ble_eq_true rfl) rfl ?_ | refine J_iinc_2 dX5_join_105 rfl (Nat.le_of_ble_eq_true rfl) rfl ?_
          first | refine J_inc_3 dX5_join_108 (Nat.le_of_ble_eq_true rfl) rfl ?_ | refine J_iinc_3 dX5_join_108 rfl (Nat.le_of_ble_eq_true rfl) rfl ?_
          refine J_goto (tgt := 4) dX5_join_111 (by decide) ?_
          exact ih (i + 1) (m + 1) _ _ (by omega) (by omega) q2 (spB_eset hb ⟨i0, i1, i2, i3⟩) (ho.tr o2)
      · refine J_iload_3 dX5_join_4 ?_
        refine J_aload_0 dX5_join_5 ?_
        refine J_get dX5_join_6 fl_X5_24 h0 rfl ?_
        refine J_icmp_geN (tgt := 114) dX5_join_9 (by decide) (by omega) (by omega) (fun c => absurd c (by omega)) (fun _ => ?_)
        refine J_iload_2 dX5_join_12 ?_
        refine J_if_leN (tgt := 99) dX5_join_13 (by decide) (by omega) (fun _ => ?_) (fun c => absurd c (by omega))
        refine J_aload_0 dX5_join_99 ?_
        refine J_iload_3 dX5_join_100 ?_
        refine J_iload_2 dX5_join_101 ?_
        refine J_cV2 dX5_join_102 jmX5_move mv_X5_36 h0 rfl (Nat.le_of_ble_eq_true rfl) (by decide) (hmv) (fun r h' q => ?_)
        obtain ⟨rfl, q2, o2⟩ := q
        first | refine J_inc_2 dX5_join_105 (Nat.le_of_ble_eq_true rfl) rfl ?_ | refine J_iinc_2 dX5_join_105 rfl (Nat.le_of_ble_eq_true rfl) rfl ?_
        first | refine J_inc_3 dX5_join_108 (Nat.le_of_ble_eq_true rfl) rfl ?_ | refine J_iinc_3 dX5_join_108 rfl (Nat.le_of_ble_eq_true rfl) rfl ?_
        refine J_goto (tgt := 4) dX5_join_111 (by decide) ?_
        exact ih (i + 1) (m + 1) _ _ (by omega) (by omega) q2 (spB_eset hb ⟨i0, i1, i2, i3⟩) (ho.tr o2)
theorem c_join (p : spAt h a cap n g) {near : Nat} (hw : near < 2 ^ 20) (hb : spB g n) : Ct X mX5_join 1 [.ref a, .int (nI near)] h (fun r h' => r = none ∧ spAt h' a cap (jnA near n 0 0 g).2 (jnA near n 0 0 g).1 ∧ (jnA near n 0 0 g).2 ≤ n ∧ offB h h' a (a + 5)) := by
  refine Ct_of jmX5_join [some (.ref a), some (.int (nI near)), none, none] (Nat.le_of_ble_eq_true rfl) rfl ?_
  show J X RX5 cX5_join 4 _ none _ 0 _ _ _
  refine J_iconst (v := nI 0) dX5_join_0 (by decide) ?_
  refine J_istore_2 dX5_join_1 (Nat.le_of_ble_eq_true rfl) rfl ?_
  refine J_iconst (v := nI 0) dX5_join_2 (by decide) ?_
  refine J_istore_3 dX5_join_3 (Nat.le_of_ble_eq_true rfl) rfl ?_
  refine J_mono (l_join hw n 0 0 h g (by omega) (Nat.le_refl 0) p hb offB.rf) ?_
  rintro r h' ⟨e1, ⟨g', m', e2, p2, p3⟩, o2⟩
  rw [← e2]
  exact ⟨e1, p2, p3, o2⟩
def frk (g : Nat → Nat → Nat) (i k : Nat) : Nat := match k with
  | 0 => 0
  | k + 1 => (g i 2 - g i 1 + 1) + frk g (i + 1) k
def spV (g : Nat → Nat → Nat) (n : Nat) : Prop := ∀ j, j < n → g j 0 < 6 ∧ g j 1 ≤ g j 2 ∧ g j 2 < 2 ^ 20
theorem l_spf (p : spAt h a cap n g) (hv : spV g n) : ∀ (k i s : Nat), i + k = n → J X RX5 cX5_frames 3 0 (some .int) (fun r h' => r = some (.int (nI (s + frk g i k))) ∧ h' = h) 4 [some (.ref a), some (.int (nI s)), some (.int (nI i))] [] h := by
  obtain ⟨h0, p1, p2, p3, p4, hn, hcap⟩ := id p
  intro k
  induction k with
  | zero =>
    intro i s hi
    refine J_iload_2 dX5_frames_4 ?_
    refine J_aload_0 dX5_frames_5 ?_
    refine J_get dX5_frames_6 fl_X5_24 h0 rfl ?_
    refine J_icmp_geN (tgt := 36) dX5_frames_9 (by decide) (by omega) (by omega) (fun _ => ?_) (fun c => absurd c (by omega))
    refine J_iload_1 dX5_frames_36 ?_
    exact J_iret dX5_frames_37 rfl (⟨rfl, rfl⟩)
  | succ k ih =>
    intro i s hi
    have hvi := hv i (by omega)
    rw [show s + frk g i (k + 1) = s + (g i 2 - g i 1 + 1) + frk g (i + 1) k from by rw [frk]; omega]
    refine J_iload_2 dX5_frames_4 ?_
    refine J_aload_0 dX5_frames_5 ?_
    refine J_get dX5_frames_6 fl_X5_24 h0 rfl ?_
    refine J_icmp_geN (tgt := 36) dX5_frames_9 (by decide) (by omega) (by omega) (fun c => absurd c (by omega)) (fun _ => ?_)
    refine J_iload_1 dX5_frames_12 ?_
    refine J_aload_0 dX5_frames_13 ?_
    refine J_get dX5_frames_14 fl_X5_18 h0 rfl ?_
    refine J_iload_2 dX5_frames_17 ?_
    refine J_iald dX5_frames_18 p3 rfl (by omega) (by omega) ?_
    refine J_aload_0 dX5_frames_19 ?_
    refine J_get dX5_frames_20 fl_X5_15 h0 rfl ?_
    refine J_iload_2 dX5_frames_23 ?_
    refine J_iald dX5_frames_24 p2 rfl (by omega) (by omega) ?_
    first | refine J_isubN dX5_frames_25 (by omega) ?_ | refine J_isub dX5_frames_25 ?_
    refine J_iconst (v := nI 1) dX5_frames_26 (by decide) ?_
    first | refine J_iaddN dX5_frames_27 ?_ | refine J_iadd dX5_frames_27 ?_
    first | refine J_iaddN dX5_frames_28 ?_ | refine J_iadd dX5_frames_28 ?_
    refine J_istore_1 dX5_frames_29 (Nat.le_of_ble_eq_true rfl) rfl ?_
    first | refine J_inc_2 dX5_frames_30 (Nat.le_of_ble_eq_true rfl) rfl ?_ | refine J_iinc_2 dX5_frames_30 rfl (Nat.le_of_ble_eq_true rfl) rfl ?_
    refine J_goto (tgt := 4) dX5_frames_33 (by decide) ?_
    exact ih (i + 1) _ (by omega)
theorem c_spFrames (p : spAt h a cap n g) (hv : spV g n) : CtI X mX5_frames 0 [.ref a] h (nI (frk g 0 n)) := by
  have e := l_spf (X := X) p hv n 0 0 (by omega)
  rw [Nat.zero_add] at e
  refine Ct_of jmX5_frames [some (.ref a), none, none] (Nat.le_of_ble_eq_true rfl) rfl ?_
  show J X RX5 cX5_frames 3 _ (some .int) _ 0 _ _ _
  refine J_iconst (v := nI 0) dX5_frames_0 (by decide) ?_
  refine J_istore_1 dX5_frames_1 (Nat.le_of_ble_eq_true rfl) rfl ?_
  refine J_iconst (v := nI 0) dX5_frames_2 (by decide) ?_
  refine J_istore_2 dX5_frames_3 (Nat.le_of_ble_eq_true rfl) rfl ?_
  exact e
def nthk (g : Nat → Nat → Nat) (i k m : Nat) : Option Nat := match k with
  | 0 => none
  | k + 1 => if m < g i 2 - g i 1 + 1 then some (1000000 * g i 0 + g i 1 + m) else nthk g (i + 1) k (m - (g i 2 - g i 1 + 1))
theorem l_nth (p : spAt h a cap n g) (hv : spV g n) {v0 : Int32} : ∀ (k i m : Nat) (o4 : Option Value), i + k = n → m < 2 ^ 20 → J X RX5 cX5_nth 5 0 (some .int) (fun r h' => r = some (.int (oN (nthk g i k m))) ∧ h' = h) 4 [some (.ref a), some (.int v0), some (.int (nI m)), some (.int (nI i)), o4] [] h := by
  obtain ⟨h0, p1, p2, p3, p4, hn, hcap⟩ := id p
  intro k
  induction k with
  | zero =>
    intro i m o4 hi hm
    refine J_iload_3 dX5_nth_4 ?_
    refine J_aload_0 dX5_nth_5 ?_
    refine J_get dX5_nth_6 fl_X5_24 h0 rfl ?_
    refine J_icmp_geN (tgt := 65) dX5_nth_9 (by decide) (by omega) (by omega) (fun _ => ?_) (fun c => absurd c (by omega))
    refine J_iconst (v := -1) dX5_nth_65 (by decide) ?_
    exact J_iret dX5_nth_66 rfl (⟨rfl, rfl⟩)
  | succ k ih =>
    intro i m o4 hi hm
    have hvi := hv i (by omega)
    refine J_iload_3 dX5_nth_4 ?_
    refine J_aload_0 dX5_nth_5 ?_
    refine J_get dX5_nth_6 fl_X5_24 h0 rfl ?_
    refine J_icmp_geN (tgt := 65) dX5_nth_9 (by decide) (by omega) (by omega) (fun c => absurd c (by omega)) (fun _ => ?_)
    refine J_aload_0 dX5_nth_12 ?_
    refine J_get dX5_nth_13 fl_X5_18 h0 rfl ?_
    refine J_iload_3 dX5_nth_16 ?_
    refine J_iald dX5_nth_17 p3 rfl (by omega) (by omega) ?_
    refine J_aload_0 dX5_nth_18 ?_
    refine J_get dX5_nth_19 fl_X5_15 h0 rfl ?_
    refine J_iload_3 dX5_nth_22 ?_
    refine J_iald dX5_nth_23 p2 rfl (by omega) (by omega) ?_
    first | refine J_isubN dX5_nth_24 (by omega) ?_ | refine J_isub dX5_nth_24 ?_
    refine J_iconst (v := nI 1) dX5_nth_25 (by decide) ?_
    first | refine J_iaddN dX5_nth_26 ?_ | refine J_iadd dX5_nth_26 ?_
    refine J_istore_4 dX5_nth_27 (Nat.le_of_ble_eq_true rfl) rfl ?_
    refine J_iload_2 dX5_nth_29 ?_
    refine J_iload_4 dX5_nth_30 ?_
    first | refine J_icmp_geN (tgt := 54) dX5_nth_32 (by decide) (by omega) (by omega) (fun c32 => ?_) (fun c32 => ?_) | refine J_icmp_ge (tgt := 54) dX5_nth_32 (by decide) (fun c32 => ?_) (fun c32 => ?_)
    · rw [show nthk g i (k + 1) m = nthk g (i + 1) k (m - (g i 2 - g i 1 + 1)) from if_neg (Nat.not_lt.mpr c32)]
      refine J_iload_2 dX5_nth_54 ?_
      refine J_iload_4 dX5_nth_55 ?_
      first | refine J_isubN dX5_nth_57 (by omega) ?_ | refine J_isub dX5_nth_57 ?_
      refine J_istore_2 dX5_nth_58 (Nat.le_of_ble_eq_true rfl) rfl ?_
      first | refine J_inc_3 dX5_nth_59 (Nat.le_of_ble_eq_true rfl) rfl ?_ | refine J_iinc_3 dX5_nth_59 rfl (Nat.le_of_ble_eq_true rfl) rfl ?_
      refine J_goto (tgt := 4) dX5_nth_62 (by decide) ?_
      exact ih (i + 1) _ _ (by omega) (by omega)
    · refine J_ldc dX5_nth_35 kc_X5_50 ?_
      refine J_aload_0 dX5_nth_37 ?_
      refine J_get dX5_nth_38 fl_X5_9 h0 rfl ?_
      refine J_iload_3 dX5_nth_41 ?_
      refine J_iald dX5_nth_42 p1 rfl (by omega) (by omega) ?_
      first | refine J_imulN dX5_nth_43 ?_ | refine J_imul dX5_nth_43 ?_
      refine J_aload_0 dX5_nth_44 ?_
      refine J_get dX5_nth_45 fl_X5_15 h0 rfl ?_
      refine J_iload_3 dX5_nth_48 ?_
      refine J_iald dX5_nth_49 p2 rfl (by omega) (by omega) ?_
      first | refine J_iaddN dX5_nth_50 ?_ | refine J_iadd dX5_nth_50 ?_
      refine J_iload_2 dX5_nth_51 ?_
      first | refine J_iaddN dX5_nth_52 ?_ | refine J_iadd dX5_nth_52 ?_
      exact J_iret dX5_nth_53 rfl (⟨by rw [show nthk g i (k + 1) m = some (1000000 * g i 0 + g i 1 + m) from if_pos c32]; rfl, rfl⟩)
theorem c_nth (p : spAt h a cap n g) (hv : spV g n) {m : Nat} (hm : m < 2 ^ 20) : CtI X mX5_nth 0 [.ref a, .int (nI m)] h (oN (nthk g 0 n m)) := by
  refine Ct_of jmX5_nth [some (.ref a), some (.int (nI m)), none, none, none] (Nat.le_of_ble_eq_true rfl) rfl ?_
  show J X RX5 cX5_nth 5 _ (some .int) _ 0 _ _ _
  refine J_iload_1 dX5_nth_0 ?_
  refine J_istore_2 dX5_nth_1 (Nat.le_of_ble_eq_true rfl) rfl ?_
  refine J_iconst (v := nI 0) dX5_nth_2 (by decide) ?_
  refine J_istore_3 dX5_nth_3 (Nat.le_of_ble_eq_true rfl) rfl ?_
  exact l_nth p hv n 0 m none (by omega) hm
end
