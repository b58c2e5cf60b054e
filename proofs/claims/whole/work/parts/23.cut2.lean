theorem hu_hu {h : HF} {a : Nat} {c1 c2 : AE} : hu (hu h a c1) a c2 = hu h a c2 := by
  funext j
  unfold hu
  split <;> rfl
theorem hu_self {h : HF} {a : Nat} {c : AE} (e : h a = c) : hu h a c = h := by
  funext j
  unfold hu
  split
  · rename_i q; rw [q, e]
  · rfl
theorem hAt_s {h : HF} {a : Nat} {c : AE} (p : a < jn) : hAt (hu h a c) a c := ⟨p, hu_same⟩
/-- e's numbers become y -/
def eset (x : Nat → Nat → Nat) (e : Nat) (y : Nat → Nat) : Nat → Nat → Nat := fun j => if j = e then y else x j
def kset (x : Nat → Nat) (k v : Nat) : Nat → Nat := fun j => if j = k then v else x j
theorem eset_s {x : Nat → Nat → Nat} {e : Nat} {y : Nat → Nat} : eset x e y e = y := if_pos rfl
theorem eset_n {x : Nat → Nat → Nat} {e j : Nat} {y : Nat → Nat} (n : j ≠ e) : eset x e y j = x j := if_neg n
theorem cut_setEd {h : HF} {c n e : Nat} {x : Nat → Nat → Nat} {y : Nat → Nat} (hC : cutAt h c n x) (he : e < 8) (ok : edOk y) : cutAt (hu h (c + 2 + e) (edC y)) c n (eset x e y) := by
  obtain ⟨hc, ⟨g, hf, hfe⟩, hE, hn⟩ := hC
  refine ⟨hAt_ne hc (by omega), ⟨g, hAt_ne hf (by omega), hfe⟩, fun j hj => ?_, hn⟩
  by_cases q : j = e
  · subst q
    rw [eset_s]
    exact ⟨hAt_s (hE j hj).1.1, ok⟩
  · rw [eset_n q]
    exact ⟨hAt_ne (hE j hj).1 (by omega), (hE j hj).2⟩
theorem cut_setN {h : HF} {c n m : Nat} {x : Nat → Nat → Nat} (hC : cutAt h c n x) (hm : m ≤ 8) : cutAt (hu h c (oB 0 [.ref (c + 1), .int (nI m)])) c m x := by
  obtain ⟨hc, ⟨g, hf, hfe⟩, hE, hn⟩ := hC
  exact ⟨hAt_s hc.1, ⟨g, hAt_ne hf (by omega), hfe⟩, fun j hj => ⟨hAt_ne (hE j hj).1 (by omega), (hE j hj).2⟩, hm⟩
/-- a Cut is untouched by what is written elsewhere -/
theorem cut_other {h h' : HF} {c n : Nat} {x : Nat → Nat → Nat} (hC : cutAt h c n x) (hq : ∀ a, c ≤ a → a < c + 10 → h' a = h a) : cutAt h' c n x := by
  obtain ⟨hc, ⟨g, hf, hfe⟩, hE, hn⟩ := hC
  exact ⟨⟨hc.1, (hq _ (by omega) (by omega)).trans hc.2⟩, ⟨g, ⟨hf.1, (hq _ (by omega) (by omega)).trans hf.2⟩, hfe⟩, fun j hj => ⟨⟨(hE j hj).1.1, (hq _ (by omega) (by omega)).trans (hE j hj).1.2⟩, (hE j hj).2⟩, hn⟩
section
variable {X : Cx} {h : HF} {c n : Nat} {x : Nat → Nat → Nat}
theorem c_append (hC : cutAt h c n x) (hn8 : n < 8) {y : Nat → Nat} (ok : edOk y) : Ct X mX1_append 1 [.ref c, .int (nI (y 0)), .int (nI (y 1)), .int (nI (y 2)), .int (nI (y 3)), .int (nI (y 4))] h (fun r h' => r = none ∧ h' = hu (hu h (c + 2 + n) (edC y)) c (oB 0 [.ref (c + 1), .int (nI (n + 1))])) := by
  obtain ⟨hc, ⟨g, hf, hfe⟩, hE, hn⟩ := id hC
  have he := (hE n hn8).1
  have ha : c + 2 + n < jn := he.1
  refine Ct_of jmX1_append [some (.ref c), some (.int (nI (y 0))), some (.int (nI (y 1))), some (.int (nI (y 2))), some (.int (nI (y 3))), some (.int (nI (y 4))), none] (Nat.le_of_ble_eq_true rfl) rfl ?_
  show J X RX1 cX1_append 7 _ none _ 0 _ _ _
  refine J_aload_0 dX1_append_0 ?_
  refine J_cV0i dX1_append_1 jmX1_isFull mv_X1_22 hc rfl (Nat.le_of_ble_eq_true rfl) (by decide) (c_cutFull hC) ?_
  refine J_if_eqB (tgt := 8) dX1_append_4 (by decide) (fun _ => ?_) (fun z => absurd z (by omega))
  refine J_aload_0 dX1_append_8 ?_
  refine J_get dX1_append_9 fl_X1_11 hc rfl ?_
  refine J_aload_0 dX1_append_12 ?_
  refine J_get dX1_append_13 fl_X1_18 hc rfl ?_
  refine J_aald dX1_append_16 hf ⟨_, rfl⟩ rfl (by omega) (by decide) (hfe n hn8) ?_
  refine J_astore_6 dX1_append_17 (Nat.le_of_ble_eq_true rfl) rfl ?_
  refine J_aload_6 dX1_append_19 ?_
  refine J_iload_1 dX1_append_21 ?_
  refine J_put dX1_append_22 fp_X1_26 he (Nat.le_of_ble_eq_true rfl) rfl rfl ?_
  refine J_aload_6 dX1_append_25 ?_
  refine J_iload_2 dX1_append_27 ?_
  refine J_put dX1_append_28 fp_X1_29 (hAt_s ha) (Nat.le_of_ble_eq_true rfl) rfl rfl ?_
  rw [hu_hu]
  refine J_aload_6 dX1_append_31 ?_
  refine J_iload_3 dX1_append_33 ?_
  refine J_put dX1_append_34 fp_X1_32 (hAt_s ha) (Nat.le_of_ble_eq_true rfl) rfl rfl ?_
  rw [hu_hu]
  refine J_aload_6 dX1_append_37 ?_
  refine J_iload_4 dX1_append_39 ?_
  refine J_put dX1_append_41 fp_X1_35 (hAt_s ha) (Nat.le_of_ble_eq_true rfl) rfl rfl ?_
  rw [hu_hu]
  refine J_aload_6 dX1_append_44 ?_
  refine J_iload_5 dX1_append_46 ?_
  refine J_put dX1_append_48 fp_X1_38 (hAt_s ha) (Nat.le_of_ble_eq_true rfl) rfl rfl ?_
  rw [hu_hu]
  refine J_aload_0 dX1_append_51 ?_
  refine J_dup dX1_append_52 rfl ?_
  refine J_get dX1_append_53 fl_X1_18 (hAt_ne hc (by omega)) rfl ?_
  refine J_iconst (v := nI 1) dX1_append_56 (by decide) ?_
  first | refine J_iaddN dX1_append_57 ?_ | refine J_iadd dX1_append_57 ?_
  refine J_put dX1_append_58 fp_X1_18 (hAt_ne hc (by omega)) (Nat.le_of_ble_eq_true rfl) rfl rfl ?_
  exact J_vret dX1_append_61 rfl (⟨rfl, rfl⟩)
end
section
variable {X : Cx} {h : HF} {a : Nat} {x : Nat → Nat}
theorem c_part (hE : edAt h a x) {w : Nat} (hw : w < 4) : CtI X mX2_part 0 [.ref a, .int (nI w)] h (nI (x (w + 1))) := by
  have hc := hE.1
  refine Ct_of jmX2_part [some (.ref a), some (.int (nI w))] (Nat.le_of_ble_eq_true rfl) rfl ?_
  show J X RX2 cX2_part 2 _ (some .int) _ 0 _ _ _
  rcases (show w = 0 ∨ w = 1 ∨ w = 2 ∨ w = 3 by omega) with rfl | rfl | rfl | rfl
  · refine J_iload_1 dX2_part_0 ?_
    refine J_tabN (tgt := 28) dX2_part_1 (by decide) (by decide) rfl (by decide) ?_
    refine J_aload_0 dX2_part_28 ?_
    refine J_get dX2_part_29 fl_X2_18 hc rfl ?_
    exact J_iret dX2_part_32 rfl (⟨rfl, rfl⟩)
  · refine J_iload_1 dX2_part_0 ?_
    refine J_tabN (tgt := 33) dX2_part_1 (by decide) (by decide) rfl (by decide) ?_
    refine J_aload_0 dX2_part_33 ?_
    refine J_get dX2_part_34 fl_X2_9 hc rfl ?_
    exact J_iret dX2_part_37 rfl (⟨rfl, rfl⟩)
  · refine J_iload_1 dX2_part_0 ?_
    refine J_tabN (tgt := 38) dX2_part_1 (by decide) (by decide) rfl (by decide) ?_
    refine J_aload_0 dX2_part_38 ?_
    refine J_get dX2_part_39 fl_X2_21 hc rfl ?_
    exact J_iret dX2_part_42 rfl (⟨rfl, rfl⟩)
  · refine J_iload_1 dX2_part_0 ?_
    refine J_tabNo (tgt := 43) dX2_part_1 (by decide) (by decide) (by decide) ?_
    refine J_aload_0 dX2_part_43 ?_
    refine J_get dX2_part_44 fl_X2_15 hc rfl ?_
    exact J_iret dX2_part_47 rfl (⟨rfl, rfl⟩)
theorem c_become (hE : edAt h a x) {w v : Nat} (hw : w < 4) : Ct X mX2_become 0 [.ref a, .int (nI w), .int (nI v)] h (fun r h' => r = none ∧ h' = hu h a (edC (kset x (w + 1) v))) := by
  have hc := hE.1
  refine Ct_of jmX2_become [some (.ref a), some (.int (nI w)), some (.int (nI v))] (Nat.le_of_ble_eq_true rfl) rfl ?_
  show J X RX2 cX2_become 3 _ none _ 0 _ _ _
  rcases (show w = 0 ∨ w = 1 ∨ w = 2 ∨ w = 3 by omega) with rfl | rfl | rfl | rfl
  · refine J_iload_1 dX2_become_0 ?_
    refine J_tabN (tgt := 28) dX2_become_1 (by decide) (by decide) rfl (by decide) ?_
    refine J_aload_0 dX2_become_28 ?_
    refine J_iload_2 dX2_become_29 ?_
    refine J_put dX2_become_30 fp_X2_18 hc (Nat.le_of_ble_eq_true rfl) rfl rfl ?_
    refine J_goto (tgt := 57) dX2_become_33 (by decide) ?_
    exact J_vret dX2_become_57 rfl (⟨rfl, rfl⟩)
  · refine J_iload_1 dX2_become_0 ?_
    refine J_tabN (tgt := 36) dX2_become_1 (by decide) (by decide) rfl (by decide) ?_
    refine J_aload_0 dX2_become_36 ?_
    refine J_iload_2 dX2_become_37 ?_
    refine J_put dX2_become_38 fp_X2_9 hc (Nat.le_of_ble_eq_true rfl) rfl rfl ?_
    refine J_goto (tgt := 57) dX2_become_41 (by decide) ?_
    exact J_vret dX2_become_57 rfl (⟨rfl, rfl⟩)
  · refine J_iload_1 dX2_become_0 ?_
    refine J_tabN (tgt := 44) dX2_become_1 (by decide) (by decide) rfl (by decide) ?_
    refine J_aload_0 dX2_become_44 ?_
    refine J_iload_2 dX2_become_45 ?_
    refine J_put dX2_become_46 fp_X2_21 hc (Nat.le_of_ble_eq_true rfl) rfl rfl ?_
    refine J_goto (tgt := 57) dX2_become_49 (by decide) ?_
    exact J_vret dX2_become_57 rfl (⟨rfl, rfl⟩)
  · refine J_iload_1 dX2_become_0 ?_
    refine J_tabNo (tgt := 52) dX2_become_1 (by decide) (by decide) (by decide) ?_
    refine J_aload_0 dX2_become_52 ?_
    refine J_iload_2 dX2_become_53 ?_
    refine J_put dX2_become_54 fp_X2_15 hc (Nat.le_of_ble_eq_true rfl) rfl rfl ?_
    exact J_vret dX2_become_57 rfl (⟨rfl, rfl⟩)
end
/-- the first frame of the cut that shows frame f of REEL r: from EDIT e on, k of them -/
def fss (x : Nat → Nat → Nat) (r f e k : Nat) : Option Nat := match k with
  | 0 => none
  | k + 1 => if x e 0 = r then (match fs (x e) f with
    | some j => some (bg x e + j)
    | none => fss x r f (e + 1) k) else fss x r f (e + 1) k
theorem fs_lt {x : Nat → Nat} {f j : Nat} (h : fs x f = some j) : j < x 2 ∧ fr x j = f := by
  unfold fs at h
  split at h
  · rename_i q; cases h; exact q
  · cases h
section
variable {X : Cx} {h : HF} {c n : Nat} {x : Nat → Nat → Nat}
theorem fss_lt (hC : cutAt h c n x) {r f : Nat} : ∀ (k e j : Nat), e + k = n → fss x r f e k = some j → j < 4000 := by
  intro k
  induction k with
  | zero => intro e j _ z; cases z
  | succ k ih =>
    intro e j he z
    have hn := hC.2.2.2
    rw [fss] at z
    split at z
    · cases q : fs (x e) f with
      | none => rw [q] at z; exact ih (e + 1) j (by omega) z
      | some i =>
        rw [q] at z
        cases z
        have h1 := (fs_lt q).1
        have h2 : bg x e + x e 2 ≤ 500 * (e + 1) := bg_le hC (e := e + 1) (by omega)
        omega
    · exact ih (e + 1) j (by omega) z
theorem l_cfs (hC : cutAt h c n x) {r f : Nat} (hr : r < 6) (hf0 : f < 300000) : ∀ (k e : Nat) (o4 : Option Value), e + k = n → J X RX1 cX1_firstShowing 5 2 (some .int) (fun q h' => q = some (.int (oN (fss x r f e k))) ∧ h' = h) 2 [some (.ref c), some (.int (nI r)), some (.int (nI f)), some (.int (nI e)), o4] [] h := by
  obtain ⟨hc, ⟨g, hf, hfe⟩, hE, hn⟩ := id hC
  intro k
  induction k with
  | zero =>
    intro e o4 he
    refine J_iload_3 dX1_firstShowing_2 ?_
    refine J_aload_0 dX1_firstShowing_3 ?_
    refine J_get dX1_firstShowing_4 fl_X1_18 hc rfl ?_
    refine J_icmp_geN (tgt := 60) dX1_firstShowing_7 (by decide) (by omega) (by omega) (fun _ => ?_) (fun c => absurd c (by omega))
    refine J_iconst (v := -1) dX1_firstShowing_60 (by decide) ?_
    exact J_iret dX1_firstShowing_61 rfl (⟨rfl, rfl⟩)
  | succ k ih =>
    intro e o4 he
    have o := (hE e (by omega)).2
    have o0 := o.1
    by_cases hre : x e 0 = r
    · have ct := c_efs (X := X) (hE e (by omega)) hf0
      cases hq : fs (x e) f with
      | none =>
        rw [hq] at ct
        rw [show fss x r f e (k + 1) = fss x r f (e + 1) k from by rw [fss, if_pos hre, hq]]
        refine J_iload_3 dX1_firstShowing_2 ?_
        refine J_aload_0 dX1_firstShowing_3 ?_
        refine J_get dX1_firstShowing_4 fl_X1_18 hc rfl ?_
        refine J_icmp_geN (tgt := 60) dX1_firstShowing_7 (by decide) (by omega) (by omega) (fun c => absurd c (by omega)) (fun _ => ?_)
        refine J_aload_0 dX1_firstShowing_10 ?_
        refine J_get dX1_firstShowing_11 fl_X1_11 hc rfl ?_
        refine J_iload_3 dX1_firstShowing_14 ?_
        refine J_aald dX1_firstShowing_15 hf ⟨_, rfl⟩ rfl (by omega) (by decide) (hfe e (by omega)) ?_
        refine J_get dX1_firstShowing_16 fl_X1_26 (hE e (by omega)).1 rfl ?_
        refine J_iload_1 dX1_firstShowing_19 ?_
        refine J_icmp_neN (tgt := 36) dX1_firstShowing_20 (by decide) (by omega) (by omega) (fun c => absurd c (by omega)) (fun _ => ?_)
        refine J_aload_0 dX1_firstShowing_23 ?_
        refine J_get dX1_firstShowing_24 fl_X1_11 hc rfl ?_
        refine J_iload_3 dX1_firstShowing_27 ?_
        refine J_aald dX1_firstShowing_28 hf ⟨_, rfl⟩ rfl (by omega) (by decide) (hfe e (by omega)) ?_
        refine J_iload_2 dX1_firstShowing_29 ?_
        refine J_cV1i dX1_firstShowing_30 jmX2_firstShowing mv_X1_48 (hE e (by omega)).1 rfl (Nat.le_of_ble_eq_true rfl) (by decide) (ct) ?_
        refine J_goto (tgt := 37) dX1_firstShowing_33 (by decide) ?_
        refine J_istore_4 dX1_firstShowing_37 (Nat.le_of_ble_eq_true rfl) rfl ?_
        refine J_iload_4 dX1_firstShowing_39 ?_
        refine J_iconst (v := -1) dX1_firstShowing_41 (by decide) ?_
        refine J_icmp_eq (tgt := 54) dX1_firstShowing_42 (by decide) (fun _ => ?_) (fun c => absurd (show oN none = -1 from rfl) c)
        first | refine J_inc_3 dX1_firstShowing_54 (Nat.le_of_ble_eq_true rfl) rfl ?_ | refine J_iinc_3 dX1_firstShowing_54 rfl (Nat.le_of_ble_eq_true rfl) rfl ?_
        refine J_goto (tgt := 2) dX1_firstShowing_57 (by decide) ?_
        exact ih (e + 1) _ (by omega)
      | some j =>
        rw [hq] at ct
        have hj := (fs_lt hq).1
        have hb : bg x e + x e 2 ≤ 500 * (e + 1) := bg_le hC (e := e + 1) (by omega)
        rw [show fss x r f e (k + 1) = some (bg x e + j) from by rw [fss, if_pos hre, hq]]
        refine J_iload_3 dX1_firstShowing_2 ?_
        refine J_aload_0 dX1_firstShowing_3 ?_
        refine J_get dX1_firstShowing_4 fl_X1_18 hc rfl ?_
        refine J_icmp_geN (tgt := 60) dX1_firstShowing_7 (by decide) (by omega) (by omega) (fun c => absurd c (by omega)) (fun _ => ?_)
        refine J_aload_0 dX1_firstShowing_10 ?_
        refine J_get dX1_firstShowing_11 fl_X1_11 hc rfl ?_
        refine J_iload_3 dX1_firstShowing_14 ?_
        refine J_aald dX1_firstShowing_15 hf ⟨_, rfl⟩ rfl (by omega) (by decide) (hfe e (by omega)) ?_
        refine J_get dX1_firstShowing_16 fl_X1_26 (hE e (by omega)).1 rfl ?_
        refine J_iload_1 dX1_firstShowing_19 ?_
        refine J_icmp_neN (tgt := 36) dX1_firstShowing_20 (by decide) (by omega) (by omega) (fun c => absurd c (by omega)) (fun _ => ?_)
        refine J_aload_0 dX1_firstShowing_23 ?_
        refine J_get dX1_firstShowing_24 fl_X1_11 hc rfl ?_
        refine J_iload_3 dX1_firstShowing_27 ?_
        refine J_aald dX1_firstShowing_28 hf ⟨_, rfl⟩ rfl (by omega) (by decide) (hfe e (by omega)) ?_
        refine J_iload_2 dX1_firstShowing_29 ?_
        refine J_cV1i dX1_firstShowing_30 jmX2_firstShowing mv_X1_48 (hE e (by omega)).1 rfl (Nat.le_of_ble_eq_true rfl) (by decide) (ct) ?_
        refine J_goto (tgt := 37) dX1_firstShowing_33 (by decide) ?_
        refine J_istore_4 dX1_firstShowing_37 (Nat.le_of_ble_eq_true rfl) rfl ?_
        refine J_iload_4 dX1_firstShowing_39 ?_
        refine J_iconst (v := -1) dX1_firstShowing_41 (by decide) ?_
        refine J_icmp_eq (tgt := 54) dX1_firstShowing_42 (by decide) (fun c => absurd c (oN_ne (n := j) (by omega))) (fun _ => ?_)
        refine J_aload_0 dX1_firstShowing_45 ?_
        refine J_iload_3 dX1_firstShowing_46 ?_
        refine J_cV1i dX1_firstShowing_47 jmX1_begin mv_X1_41 hc rfl (Nat.le_of_ble_eq_true rfl) (by decide) (c_begin hC (by omega)) ?_
        refine J_iload_4 dX1_firstShowing_50 ?_
        refine J_iaddN (b := j) dX1_firstShowing_52 ?_
        exact J_iret dX1_firstShowing_53 rfl (⟨rfl, rfl⟩)
    · rw [show fss x r f e (k + 1) = fss x r f (e + 1) k from by rw [fss, if_neg hre]]
      refine J_iload_3 dX1_firstShowing_2 ?_
      refine J_aload_0 dX1_firstShowing_3 ?_
      refine J_get dX1_firstShowing_4 fl_X1_18 hc rfl ?_
      refine J_icmp_geN (tgt := 60) dX1_firstShowing_7 (by decide) (by omega) (by omega) (fun c => absurd c (by omega)) (fun _ => ?_)
      refine J_aload_0 dX1_firstShowing_10 ?_
      refine J_get dX1_firstShowing_11 fl_X1_11 hc rfl ?_
      refine J_iload_3 dX1_firstShowing_14 ?_
      refine J_aald dX1_firstShowing_15 hf ⟨_, rfl⟩ rfl (by omega) (by decide) (hfe e (by omega)) ?_
      refine J_get dX1_firstShowing_16 fl_X1_26 (hE e (by omega)).1 rfl ?_
      refine J_iload_1 dX1_firstShowing_19 ?_
      refine J_icmp_neN (tgt := 36) dX1_firstShowing_20 (by decide) (by omega) (by omega) (fun _ => ?_) (fun c => absurd c (by omega))
      refine J_iconst (v := -1) dX1_firstShowing_36 (by decide) ?_
      refine J_istore_4 dX1_firstShowing_37 (Nat.le_of_ble_eq_true rfl) rfl ?_
      refine J_iload_4 dX1_firstShowing_39 ?_
      refine J_iconst (v := -1) dX1_firstShowing_41 (by decide) ?_
      refine J_icmp_eq (tgt := 54) dX1_firstShowing_42 (by decide) (fun _ => ?_) (fun c => absurd (rfl : (-1 : Int32) = -1) c)
      first | refine J_inc_3 dX1_firstShowing_54 (Nat.le_of_ble_eq_true rfl) rfl ?_ | refine J_iinc_3 dX1_firstShowing_54 rfl (Nat.le_of_ble_eq_true rfl) rfl ?_
      refine J_goto (tgt := 2) dX1_firstShowing_57 (by decide) ?_
      exact ih (e + 1) _ (by omega)
theorem c_cfs (hC : cutAt h c n x) {r f : Nat} (hr : r < 6) (hf0 : f < 300000) : CtI X mX1_firstShowing 2 [.ref c, .int (nI r), .int (nI f)] h (oN (fss x r f 0 n)) := by
  refine Ct_of jmX1_firstShowing [some (.ref c), some (.int (nI r)), some (.int (nI f)), none, none] (Nat.le_of_ble_eq_true rfl) rfl ?_
  show J X RX1 cX1_firstShowing 5 _ (some .int) _ 0 _ _ _
  refine J_iconst (v := nI 0) dX1_firstShowing_0 (by decide) ?_
  refine J_istore_3 dX1_firstShowing_1 (Nat.le_of_ble_eq_true rfl) rfl ?_
  exact l_cfs hC hr hf0 n 0 none (by omega)
/-- of EDIT e the frames from k on, m of them, that the cut shows there first -/
def shk (x : Nat → Nat → Nat) (n e k m : Nat) : Nat := match m with
  | 0 => 0
  | m + 1 => (if fss x (x e 0) (fr (x e) k) 0 n = some (bg x e + k) then 1 else 0) + shk x n e (k + 1) m
def sh (x : Nat → Nat → Nat) (n e m : Nat) : Nat := match m with
  | 0 => 0
  | m + 1 => shk x n e 0 (x e 2) + sh x n (e + 1) m
theorem l_shk (hC : cutAt h c n x) {e : Nat} (he : e < n) {Q : Option Value → HF → Prop} (s1 : Nat) (kk : ∀ o5 : Option Value, J X RX1 cX1_shownFrames 6 3 (some .int) Q 69 [some (.ref c), some (.int (nI (s1 + shk x n e 0 (x e 2)))), some (.int (nI e)), some (.ref (c + 2 + e)), some (.int (nI (bg x e))), o5] [] h) :
    ∀ (m k s : Nat), k + m = x e 2 → s + shk x n e k m = s1 + shk x n e 0 (x e 2) → J X RX1 cX1_shownFrames 6 3 (some .int) Q 29 [some (.ref c), some (.int (nI s)), some (.int (nI e)), some (.ref (c + 2 + e)), some (.int (nI (bg x e))), some (.int (nI k))] [] h := by
  obtain ⟨hc, ⟨g, hf, hfe⟩, hE, hn⟩ := id hC
  have hEe := hE e (by omega)
  have hE1 := hEe.1
  have o := hEe.2
  obtain ⟨o0, o1, o2, o3, o4, o5, o6⟩ := id o
  have hb : bg x e + x e 2 ≤ 500 * (e + 1) := bg_le hC (e := e + 1) (by omega)
  intro m
  induction m with
  | zero =>
    intro k s hk hs
    have es : s = s1 + shk x n e 0 (x e 2) := hs
    subst es
    refine J_iload_5 dX1_shownFrames_29 ?_
    refine J_aload_3 dX1_shownFrames_31 ?_
    refine J_get dX1_shownFrames_32 fl_X1_32 hE1 rfl ?_
    refine J_icmp_geN (tgt := 69) dX1_shownFrames_35 (by decide) (by omega) (by omega) (fun _ => ?_) (fun c => absurd c (by omega))
    exact kk _
  | succ m ih =>
    intro k s hk hs
    have hfr := fr_le o (k := k) (by omega)
    have hl : ∀ j, fss x (x e 0) (fr (x e) k) 0 n = some j → j < 2 ^ 31 := fun j z => Nat.lt_trans (fss_lt hC n 0 j (by omega) z) (by decide)
    refine J_iload_5 dX1_shownFrames_29 ?_
    refine J_aload_3 dX1_shownFrames_31 ?_
    refine J_get dX1_shownFrames_32 fl_X1_32 hE1 rfl ?_
    refine J_icmp_geN (tgt := 69) dX1_shownFrames_35 (by decide) (by omega) (by omega) (fun c => absurd c (by omega)) (fun _ => ?_)
    refine J_aload_0 dX1_shownFrames_38 ?_
    refine J_aload_3 dX1_shownFrames_39 ?_
    refine J_get dX1_shownFrames_40 fl_X1_26 hE1 rfl ?_
    refine J_aload_3 dX1_shownFrames_43 ?_
    refine J_iload_5 dX1_shownFrames_44 ?_
    refine J_cV1i dX1_shownFrames_46 jmX2_frameAt mv_X1_51 hE1 rfl (Nat.le_of_ble_eq_true rfl) (by decide) (c_frameAt hEe (by omega)) ?_
    refine J_cV2i dX1_shownFrames_49 jmX1_firstShowing mv_X1_54 hc rfl (Nat.le_of_ble_eq_true rfl) (by decide) (c_cfs hC o0 (by omega)) ?_
    refine J_iload_4 dX1_shownFrames_52 ?_
    refine J_iload_5 dX1_shownFrames_54 ?_
    first | refine J_iaddN dX1_shownFrames_56 ?_ | refine J_iadd dX1_shownFrames_56 ?_
    refine J_icmp_ne (tgt := 63) dX1_shownFrames_57 (by decide) (fun c57 => ?_) (fun c57 => ?_)
    · first | (rw [oN_eq (by omega) hl] at c57; rw [shk, if_neg c57] at hs) | skip
      first | refine J_inc_5 dX1_shownFrames_63 (Nat.le_of_ble_eq_true rfl) rfl ?_ | refine J_iinc_5 dX1_shownFrames_63 rfl (Nat.le_of_ble_eq_true rfl) rfl ?_
      refine J_goto (tgt := 29) dX1_shownFrames_66 (by decide) ?_
      exact ih (k + 1) _ (by omega) (by omega)
    · rw [oN_eq (by omega) hl] at c57
      rw [shk, if_pos c57] at hs
      first | refine J_inc_1 dX1_shownFrames_60 (Nat.le_of_ble_eq_true rfl) rfl ?_ | refine J_iinc_1 dX1_shownFrames_60 rfl (Nat.le_of_ble_eq_true rfl) rfl ?_
      first | (rw [oN_eq (by omega) hl] at c57; rw [shk, if_neg c57] at hs) | skip
      first | refine J_inc_5 dX1_shownFrames_63 (Nat.le_of_ble_eq_true rfl) rfl ?_ | refine J_iinc_5 dX1_shownFrames_63 rfl (Nat.le_of_ble_eq_true rfl) rfl ?_
      refine J_goto (tgt := 29) dX1_shownFrames_66 (by decide) ?_
      exact ih (k + 1) _ (by omega) (by omega)
theorem l_sh (hC : cutAt h c n x) {tot : Nat} : ∀ (m e s : Nat) (o3 o4 o5 : Option Value), lok o3 = true → lok o4 = true → e + m = n → s + sh x n e m = tot → J X RX1 cX1_shownFrames 6 3 (some .int) (fun q h' => q = some (.int (nI tot)) ∧ h' = h) 4 [some (.ref c), some (.int (nI s)), some (.int (nI e)), o3, o4, o5] [] h := by
  obtain ⟨hc, ⟨g, hf, hfe⟩, hE, hn⟩ := id hC
  intro m
  induction m with
  | zero =>
    intro e s o3 o4 o5 l3 l4 he hs
    have es : s = tot := hs
    subst es
    refine J_iload_2 dX1_shownFrames_4 ?_
    refine J_aload_0 dX1_shownFrames_5 ?_
    refine J_get dX1_shownFrames_6 fl_X1_18 hc rfl ?_
    refine J_icmp_geN (tgt := 75) dX1_shownFrames_9 (by decide) (by omega) (by omega) (fun _ => ?_) (fun c => absurd c (by omega))
    refine J_iload_1 dX1_shownFrames_75 ?_
    exact J_iret dX1_shownFrames_76 rfl (⟨rfl, rfl⟩)
  | succ m ih =>
    intro e s o3 o4 o5 l3 l4 he hs
    rw [sh] at hs
    refine J_iload_2 dX1_shownFrames_4 ?_
    refine J_aload_0 dX1_shownFrames_5 ?_
    refine J_get dX1_shownFrames_6 fl_X1_18 hc rfl ?_
    refine J_icmp_geN (tgt := 75) dX1_shownFrames_9 (by decide) (by omega) (by omega) (fun c => absurd c (by omega)) (fun _ => ?_)
    refine J_aload_0 dX1_shownFrames_12 ?_
    refine J_get dX1_shownFrames_13 fl_X1_11 hc rfl ?_
    refine J_iload_2 dX1_shownFrames_16 ?_
    refine J_aald dX1_shownFrames_17 hf ⟨_, rfl⟩ rfl (by omega) (by decide) (hfe e (by omega)) ?_
    refine J_astore_3 dX1_shownFrames_18 (Nat.le_of_ble_eq_true rfl) rfl ?_
    refine J_aload_0 dX1_shownFrames_19 ?_
    refine J_iload_2 dX1_shownFrames_20 ?_
    refine J_cV1i dX1_shownFrames_21 jmX1_begin mv_X1_41 hc rfl (Nat.le_of_ble_eq_true rfl) (by decide) (c_begin hC (by omega)) ?_
    refine J_istore_4 dX1_shownFrames_24 (Nat.le_of_ble_eq_true rfl) rfl ?_
    refine J_iconst (v := nI 0) dX1_shownFrames_26 (by decide) ?_
    refine J_istore_5 dX1_shownFrames_27 (Nat.le_of_ble_eq_true rfl) rfl ?_
    refine l_shk hC (by omega) s (fun o5 => ?_) (x e 2) 0 s (by omega) rfl
    first | refine J_inc_2 dX1_shownFrames_69 (Nat.le_of_ble_eq_true rfl) rfl ?_ | refine J_iinc_2 dX1_shownFrames_69 rfl (Nat.le_of_ble_eq_true rfl) rfl ?_
    refine J_goto (tgt := 4) dX1_shownFrames_72 (by decide) ?_
    exact ih (e + 1) _ _ _ _ rfl rfl (by omega) (by omega)
theorem c_shown (hC : cutAt h c n x) : CtI X mX1_shownFrames 3 [.ref c] h (nI (sh x n 0 n)) := by
  refine Ct_of jmX1_shownFrames [some (.ref c), none, none, none, none, none] (Nat.le_of_ble_eq_true rfl) rfl ?_
  show J X RX1 cX1_shownFrames 6 _ (some .int) _ 0 _ _ _
  refine J_iconst (v := nI 0) dX1_shownFrames_0 (by decide) ?_
  refine J_istore_1 dX1_shownFrames_1 (Nat.le_of_ble_eq_true rfl) rfl ?_
  refine J_iconst (v := nI 0) dX1_shownFrames_2 (by decide) ?_
  refine J_istore_2 dX1_shownFrames_3 (Nat.le_of_ble_eq_true rfl) rfl ?_
  exact l_sh hC n 0 0 none none none rfl rfl (by omega) (Nat.zero_add _)
end
