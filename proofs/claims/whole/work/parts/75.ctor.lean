section
variable {X : Cx} {h : HF}
theorem g_edit {a n : Nat} (ha : hAt h a (oB 1 [.int 0, .int 0, .int 0, .int 0, .int 0])) (hg : gp a < n) : Gt X mX2_init 1 [.ref a] n h 0 0 (fun h' => hAt h' a (oB 1 [.int 0, .int 0, .int (nI 1), .int 0, .int (nI 1)]) ∧ offB h h' a (a + 1)) := by
  have h71 : a < 71 := ha.1
  refine Gt_of (ini := True) jmX2_init rfl (fun _ => rfl) [some (.ref a)] (Nat.le_of_ble_eq_true rfl) rfl ?_
  show G X True RX2 cX2_init 1 1 (gRet X _ _ _) _ _ _ 0 _ _ _ _ _
  refine G_aload_0 dX2_init_0 ?_
  refine G_obj dX2_init_1 gob_X2 (by decide) (Nat.le_of_ble_eq_true rfl) ?_
  refine G_aload_0 dX2_init_4 ?_
  refine G_iconst (v := nI 1) dX2_init_5 (by decide) ?_
  refine G_put dX2_init_6 fp_X2_9 ha (by omega) (Nat.le_of_ble_eq_true rfl) rfl rfl ?_
  refine G_aload_0 dX2_init_9 ?_
  refine G_iconst (v := nI 1) dX2_init_10 (by decide) ?_
  refine G_put dX2_init_11 fp_X2_15 (hAt_s (show _ < 71 by omega)) (by omega) (Nat.le_of_ble_eq_true rfl) rfl rfl ?_
  exact G_vret dX2_init_14 (by omega) (by omega) ⟨(hAt_s (show _ < 71 by omega)), (offB.rf.hu (by omega) (by omega)).hu (by omega) (by omega)⟩
theorem g_spans {a n cap : Nat} (hc : cap < 1000) (ha : hAt h a (oB 4 [.null, .null, .null, .null, .int 0])) (h71 : a + 4 < 71) (hg : gp a < n) (hs : ∀ k, k < 4 → gs (n + k) = a + 1 + k) : Gt X mX5_init 1 [.ref a, .int (nI cap)] n h 4 (4 * cap) (fun h' => hAt h' a (oB 4 [.ref (a + 1), .ref (a + 2), .ref (a + 3), .ref (a + 4), .int 0]) ∧ (∀ k, k < 4 → hAt h' (a + 1 + k) (oA 0 cap (fun _ => 0))) ∧ offB h h' a (a + 5)) := by
  have s0 : gs (n + 0) = a + 1 := hs 0 (by decide)
  have s1 : gs (n + (0 + 1)) = a + 2 := hs 1 (by decide)
  have s2 : gs (n + (0 + 1 + 1)) = a + 3 := hs 2 (by decide)
  have s3 : gs (n + (0 + 1 + 1 + 1)) = a + 4 := hs 3 (by decide)
  refine Gt_of (ini := True) jmX5_init rfl (fun _ => rfl) [some (.ref a), some (.int (nI cap))] (Nat.le_of_ble_eq_true rfl) rfl ?_
  show G X True RX5 cX5_init 2 1 (gRet X _ _ _) _ _ _ 0 _ _ _ _ _
  refine G_aload_0 dX5_init_0 ?_
  refine G_obj dX5_init_1 gob_X5 (by decide) (Nat.le_of_ble_eq_true rfl) ?_
  refine G_aload_0 dX5_init_4 ?_
  refine G_iload_1 dX5_init_5 ?_
  refine G_newa (i := a + 1) dX5_init_6 (by omega) s0 (by omega) (by omega) (by omega) ?_
  refine G_putF trivial dX5_init_8 gff_X5_9 (hAt_ne ha (by omega)) (by omega) (Nat.le_of_ble_eq_true rfl) rfl rfl ?_
  refine G_aload_0 dX5_init_11 ?_
  refine G_iload_1 dX5_init_12 ?_
  refine G_newa (i := a + 2) dX5_init_13 (by omega) s1 (by omega) (by omega) (by omega) ?_
  refine G_putF trivial dX5_init_15 gff_X5_15 (hAt_ne (hAt_s (show _ < 71 by omega)) (by omega)) (by omega) (Nat.le_of_ble_eq_true rfl) rfl rfl ?_
  refine G_aload_0 dX5_init_18 ?_
  refine G_iload_1 dX5_init_19 ?_
  refine G_newa (i := a + 3) dX5_init_20 (by omega) s2 (by omega) (by omega) (by omega) ?_
  refine G_putF trivial dX5_init_22 gff_X5_18 (hAt_ne (hAt_s (show _ < 71 by omega)) (by omega)) (by omega) (Nat.le_of_ble_eq_true rfl) rfl rfl ?_
  refine G_aload_0 dX5_init_25 ?_
  refine G_iload_1 dX5_init_26 ?_
  refine G_newa (i := a + 4) dX5_init_27 (by omega) s3 (by omega) (by omega) (by omega) ?_
  refine G_putF trivial dX5_init_29 gff_X5_21 (hAt_ne (hAt_s (show _ < 71 by omega)) (by omega)) (by omega) (Nat.le_of_ble_eq_true rfl) rfl rfl ?_
  refine G_vret dX5_init_32 (by omega) (by omega) ⟨(hAt_s (show _ < 71 by omega)), fun k hk => ?_, ((((((((offB.rf.hu (by omega) (by omega)).hu (by omega) (by omega)).hu (by omega) (by omega)).hu (by omega) (by omega)).hu (by omega) (by omega)).hu (by omega) (by omega)).hu (by omega) (by omega)).hu (by omega) (by omega))⟩
  rcases (show k = 0 ∨ k = 1 ∨ k = 2 ∨ k = 3 by omega) with rfl | rfl | rfl | rfl
  · exact (hAt_ne (hAt_ne (hAt_ne (hAt_ne (hAt_ne (hAt_ne (hAt_ne (hAt_s (show _ < 71 by omega)) (by omega)) (by omega)) (by omega)) (by omega)) (by omega)) (by omega)) (by omega))
  · exact (hAt_ne (hAt_ne (hAt_ne (hAt_ne (hAt_ne (hAt_s (show _ < 71 by omega)) (by omega)) (by omega)) (by omega)) (by omega)) (by omega))
  · exact (hAt_ne (hAt_ne (hAt_ne (hAt_s (show _ < 71 by omega)) (by omega)) (by omega)) (by omega))
  · exact (hAt_ne (hAt_s (show _ < 71 by omega)) (by omega))
theorem g_match {a n : Nat} (ha : hAt h a (oB 2 [.null, .int 0])) (h71 : a + 1 < 71) (hg : gp a < n) (hs : gs n = a + 1) : Gt X mX3_init 1 [.ref a] n h 1 8 (fun h' => hAt h' a (oB 2 [.ref (a + 1), .int 0]) ∧ hAt h' (a + 1) (oA 0 8 (fun _ => 0)) ∧ offB h h' a (a + 2)) := by
  refine Gt_of (ini := True) jmX3_init rfl (fun _ => rfl) [some (.ref a)] (Nat.le_of_ble_eq_true rfl) rfl ?_
  show G X True RX3 cX3_init 1 1 (gRet X _ _ _) _ _ _ 0 _ _ _ _ _
  refine G_aload_0 dX3_init_0 ?_
  refine G_obj dX3_init_1 gob_X3 (by decide) (Nat.le_of_ble_eq_true rfl) ?_
  refine G_aload_0 dX3_init_4 ?_
  refine G_bipush (v := nI 8) dX3_init_5 (by decide) ?_
  refine G_newa (i := a + 1) dX3_init_7 (by omega) hs (by omega) (by omega) (by omega) ?_
  refine G_putF trivial dX3_init_9 gff_X3_9 (hAt_ne ha (by omega)) (by omega) (Nat.le_of_ble_eq_true rfl) rfl rfl ?_
  exact G_vret dX3_init_12 (by omega) (by omega) ⟨(hAt_s (show _ < 71 by omega)), (hAt_ne (hAt_s (show _ < 71 by omega)) (by omega)), ((offB.rf.hu (by omega) (by omega)).hu (by omega) (by omega))⟩
theorem g_sheet {a n : Nat} (ha : hAt h a (oB 3 [.null, .int 0, .int 0, .int 0])) (h71 : a + 1 < 71) (hg : gp a < n) (hs : gs n = a + 1) : Gt X mX4_init 1 [.ref a] n h 1 60 (fun h' => hAt h' a (oB 3 [.ref (a + 1), .int (nI 1), .int 0, .int 0]) ∧ hAt h' (a + 1) (oA 0 60 (fun _ => 0)) ∧ offB h h' a (a + 2)) := by
  refine Gt_of (ini := True) jmX4_init rfl (fun _ => rfl) [some (.ref a)] (Nat.le_of_ble_eq_true rfl) rfl ?_
  show G X True RX4 cX4_init 1 1 (gRet X _ _ _) _ _ _ 0 _ _ _ _ _
  refine G_aload_0 dX4_init_0 ?_
  refine G_obj dX4_init_1 gob_X4 (by decide) (Nat.le_of_ble_eq_true rfl) ?_
  refine G_aload_0 dX4_init_4 ?_
  refine G_bipush (v := nI 60) dX4_init_5 (by decide) ?_
  refine G_newa (i := a + 1) dX4_init_7 (by omega) hs (by omega) (by omega) (by omega) ?_
  refine G_putF trivial dX4_init_9 gff_X4_9 (hAt_ne ha (by omega)) (by omega) (Nat.le_of_ble_eq_true rfl) rfl rfl ?_
  refine G_aload_0 dX4_init_12 ?_
  refine G_iconst (v := nI 1) dX4_init_13 (by decide) ?_
  refine G_put dX4_init_14 fp_X4_15 (hAt_s (show _ < 71 by omega)) (by omega) (Nat.le_of_ble_eq_true rfl) rfl rfl ?_
  exact G_vret dX4_init_17 (by omega) (by omega) ⟨(hAt_s (show _ < 71 by omega)), (hAt_ne (hAt_ne (hAt_s (show _ < 71 by omega)) (by omega)) (by omega)), (((offB.rf.hu (by omega) (by omega)).hu (by omega) (by omega)).hu (by omega) (by omega))⟩
theorem l_gcut {c n : Nat} (h71 : c + 9 < 71) (hg : gp c < n) (hs : ∀ k, k < 9 → gs (n + k) = c + 1 + k) : ∀ (k e : Nat) (h1 : HF) (f : Nat → Option Nat), e + k = 8 → hAt h1 c (oB 0 [.ref (c + 1), .int 0]) → hAt h1 (c + 1) (oR 2 8 f) → (∀ j, j < e → f j = some (c + 2 + j)) → (∀ j, j < e → hAt h1 (c + 2 + j) (oB 1 [.int 0, .int 0, .int (nI 1), .int 0, .int (nI 1)])) → offB h h1 c (c + 10) → G X True RX1 cX1_init 2 2 (gRet X cX1_init n (fun h' => hAt h' c (oB 0 [.ref (c + 1), .int 0]) ∧ (∃ f : Nat → Option Nat, hAt h' (c + 1) (oR 2 8 f) ∧ ∀ j, j < 8 → f j = some (c + 2 + j)) ∧ (∀ j, j < 8 → hAt h' (c + 2 + j) (oB 1 [.int 0, .int 0, .int (nI 1), .int 0, .int (nI 1)])) ∧ offB h h' c (c + 10))) 9 48 n 15 [some (.ref c), some (.int (nI e))] [] h1 (0 + 1 + e) (0 + 8 + 5 * e) := by
  intro k
  induction k with
  | zero =>
    intro e h1 f he hc hr hf hE ho
    obtain rfl : e = 8 := by omega
    refine G_iload_1 dX1_init_15 ?_
    refine G_bipush (v := nI 8) dX1_init_16 (by decide) ?_
    refine G_icmp_geN (tgt := 40) dX1_init_18 (by decide) (by omega) (by omega) (fun _ => ?_) (fun c => absurd c (by omega))
    exact G_vret dX1_init_40 (by omega) (by omega) ⟨hc, ⟨f, hr, hf⟩, hE, ho⟩
  | succ k ih =>
    intro e h1 f he hc hr hf hE ho
    have hse : gs (n + (0 + 1 + e)) = c + 2 + e := by have := hs (e + 1) (by omega); rw [show n + (0 + 1 + e) = n + (e + 1) by omega, this]; omega
    have hge : gp (c + 2 + e) = n + (0 + 1 + e) := by rw [← hse]; exact gp_gs _
    have hgr : gp (c + 1) = n := by rw [← hs 0 (by decide)]; exact gp_gs _
    refine G_iload_1 dX1_init_15 ?_
    refine G_bipush (v := nI 8) dX1_init_16 (by decide) ?_
    refine G_icmp_geN (tgt := 40) dX1_init_18 (by decide) (by omega) (by omega) (fun c => absurd c (by omega)) (fun _ => ?_)
    refine G_aload_0 dX1_init_21 ?_
    refine G_get dX1_init_22 fl_X1_11 hc (by omega) rfl ?_
    refine G_iload_1 dX1_init_25 ?_
    refine G_new (i := c + 2 + e) (fs := [.int 0, .int 0, .int 0, .int 0, .int 0]) dX1_init_26 gnw_X1_9 (fun j hj => by rcases (show j = 0 ∨ j = 1 ∨ j = 2 ∨ j = 3 ∨ j = 4 by omega) with rfl | rfl | rfl | rfl | rfl <;> rfl) hse (by omega) (by omega) (by omega) ?_
    refine G_dup dX1_init_29 rfl ?_
    refine G_ctorN (a := c + 2 + e) (As := []) dX1_init_30 jmX2_init rfl gmn_X1_17 rfl rfl (Nat.le_of_ble_eq_true rfl) (by decide) (g_edit (hAt_s (show _ < 71 by omega)) (by omega)) (by omega) (by omega) (fun h1 q1 => ?_)
    obtain ⟨q1a, q1o⟩ := q1
    refine G_aast dX1_init_33 (hAt_off (hAt_ne hr (by omega)) q1o (by omega)) (by omega) q1a (by omega) rfl rfl rfl (by omega) (by omega) ?_
    refine G_inc_1 dX1_init_34 (Nat.le_of_ble_eq_true rfl) rfl ?_
    refine G_goto (tgt := 15) dX1_init_37 (by decide) ?_
    refine ih (e + 1) _ _ (by omega) (hAt_ne (hAt_off (hAt_ne hc (by omega)) q1o (by omega)) (by omega)) (hAt_s (show _ < 71 by omega)) (fun j hj => ?_) (fun j hj => ?_) (((ho.hu (by omega) (by omega)).tr (q1o.wide (by omega) (by omega))).hu (by omega) (by omega))
    · unfold va_up
      by_cases z : j = e
      · rw [if_pos z, z]
      · rw [if_neg z]; exact hf j (by omega)
    · by_cases z : j = e
      · rw [z]; exact hAt_ne q1a (by omega)
      · exact hAt_ne (hAt_off (hAt_ne (hE j (by omega)) (by omega)) q1o (by omega)) (by omega)
theorem g_cut {c n : Nat} (hc : hAt h c (oB 0 [.null, .int 0])) (h71 : c + 9 < 71) (hg : gp c < n) (hs : ∀ k, k < 9 → gs (n + k) = c + 1 + k) : Gt X mX1_init 2 [.ref c] n h 9 48 (fun h' => hAt h' c (oB 0 [.ref (c + 1), .int 0]) ∧ (∃ f : Nat → Option Nat, hAt h' (c + 1) (oR 2 8 f) ∧ ∀ j, j < 8 → f j = some (c + 2 + j)) ∧ (∀ j, j < 8 → hAt h' (c + 2 + j) (oB 1 [.int 0, .int 0, .int (nI 1), .int 0, .int (nI 1)])) ∧ offB h h' c (c + 10)) := by
  have hs0 : gs (n + 0) = c + 1 := hs 0 (by decide)
  refine Gt_of (ini := True) jmX1_init rfl (fun _ => rfl) [some (.ref c), none] (Nat.le_of_ble_eq_true rfl) rfl ?_
  show G X True RX1 cX1_init 2 2 (gRet X _ _ _) _ _ _ 0 _ _ _ _ _
  refine G_aload_0 dX1_init_0 ?_
  refine G_obj dX1_init_1 gob_X1 (by decide) (Nat.le_of_ble_eq_true rfl) ?_
  refine G_aload_0 dX1_init_4 ?_
  refine G_bipush (v := nI 8) dX1_init_5 (by decide) ?_
  refine G_newq (i := c + 1) (t := 2) dX1_init_7 gcl_X1_9 (fun s h => h.2.2.2.2.1) rfl (by omega) hs0 (by omega) (by omega) (by omega) ?_
  refine G_putF trivial dX1_init_10 gff_X1_11 (hAt_ne hc (by omega)) (by omega) (Nat.le_of_ble_eq_true rfl) rfl rfl ?_
  refine G_iconst (v := nI 0) dX1_init_13 (by decide) ?_
  refine G_istore_1 dX1_init_14 (Nat.le_of_ble_eq_true rfl) rfl ?_
  exact l_gcut h71 hg hs 8 0 _ _ (by omega) (hAt_s (show _ < 71 by omega)) (hAt_ne (hAt_s (show _ < 71 by omega)) (by omega)) (fun j hj => by omega) (fun j hj => by omega) ((offB.rf.hu (by omega) (by omega)).hu (by omega) (by omega))
theorem l_gfill {a n m : Nat} {v : Int32} (hm : m < 2 ^ 31) (hg : gp a < n) : ∀ (k i : Nat) (h1 : HF) (f : Nat → Int32), i + k = m → hAt h1 a (oA 0 m f) → (∀ j, j < i → f j = v) → offB h h1 a (a + 1) → G X False RJ7 cJ7_fill_53178 4 1 (gRet X cJ7_fill_53178 n (fun h' => (∃ f', hAt h' a (oA 0 m f') ∧ ∀ j, j < m → f' j = v) ∧ offB h h' a (a + 1))) 0 0 n 5 [some (.ref a), some (.int v), some (.int (nI i)), some (.int (nI m))] [] h1 0 0 := by
  intro k
  induction k with
  | zero =>
    intro i h1 f hi ha hf ho
    refine G_iload_2 dJ7_fill_53178_5 ?_
    refine G_iload_3 dJ7_fill_53178_6 ?_
    refine G_icmp_geN (tgt := 20) dJ7_fill_53178_7 (by decide) (by omega) (by omega) (fun _ => ?_) (fun c => absurd c (by omega))
    exact G_vret dJ7_fill_53178_20 rfl (Nat.le_refl _) ⟨⟨f, ha, fun j hj => hf j (by omega)⟩, ho⟩
  | succ k ih =>
    intro i h1 f hi ha hf ho
    refine G_iload_2 dJ7_fill_53178_5 ?_
    refine G_iload_3 dJ7_fill_53178_6 ?_
    refine G_icmp_geN (tgt := 20) dJ7_fill_53178_7 (by decide) (by omega) (by omega) (fun c => absurd c (by omega)) (fun _ => ?_)
    refine G_aload_0 dJ7_fill_53178_10 ?_
    refine G_iload_2 dJ7_fill_53178_11 ?_
    refine G_iload_1 dJ7_fill_53178_12 ?_
    refine G_iast dJ7_fill_53178_13 ha (by omega) rfl (by omega) hm ?_
    refine G_inc_2 dJ7_fill_53178_14 (Nat.le_of_ble_eq_true rfl) rfl ?_
    refine G_goto (tgt := 5) dJ7_fill_53178_17 (by decide) ?_
    refine ih (i + 1) _ _ (by omega) (hAt_s ha.1) (fun j hj => ?_) (ho.hu (by omega) (by omega))
    unfold upd
    by_cases z : j = i
    · rw [if_pos z]
    · rw [if_neg z]; exact hf j (by omega)
theorem g_fill {a n m : Nat} {v : Int32} {f : Nat → Int32} (hm : m < 2 ^ 31) (ha : hAt h a (oA 0 m f)) (hg : gp a < n) : Gt X mJ7_fill_53178 1 [.ref a, .int v] n h 0 0 (fun h' => (∃ f', hAt h' a (oA 0 m f') ∧ ∀ j, j < m → f' j = v) ∧ offB h h' a (a + 1)) := by
  refine Gt_of (ini := False) jmJ7_fill_53178 rfl (fun z => z.elim) [some (.ref a), some (.int v), none, none] (Nat.le_of_ble_eq_true rfl) rfl ?_
  show G X False RJ7 cJ7_fill_53178 4 1 (gRet X _ _ _) _ _ _ 0 _ _ _ _ _
  refine G_iconst (v := nI 0) dJ7_fill_53178_0 (by decide) ?_
  refine G_istore_2 dJ7_fill_53178_1 (Nat.le_of_ble_eq_true rfl) rfl ?_
  refine G_aload_0 dJ7_fill_53178_2 ?_
  refine G_alen dJ7_fill_53178_3 ha (by omega) ⟨_, rfl⟩ ?_
  refine G_istore_3 dJ7_fill_53178_4 (Nat.le_of_ble_eq_true rfl) rfl ?_
  exact l_gfill hm hg m 0 h f (by omega) ha (fun j hj => by omega) offB.rf
end
