/-! what a new object is -/
def D0 : DS := (fun _ => 0, fun _ _ _ => 0, fun i => if i = 1 then 10 else 0, fun _ => 100000, fun _ => (true, 0, 0, fun _ => 0), 0)
theorem dok_D0 : dok D0 := ⟨by decide, by decide, by decide, fun r hr => ⟨show 1 ≤ 100000 by decide, show 100000 ≤ 200000 by decide⟩, by decide, fun l hl => Nat.zero_le _, fun l e hl he => absurd he (Nat.not_lt_zero _), fun s hs => ⟨show 0 < 3 by decide, show 0 ≤ 60 by decide⟩⟩
def x0 : Nat → Nat := fun k => if k = 2 ∨ k = 4 then 1 else 0
theorem x0_ok : edOk x0 := ⟨by decide, by decide, by decide, by decide, by decide, by decide, by decide⟩
section
variable {X : Cx} {h : HF}
theorem g_desk (h00 : hAt h 0 (oB 5 [.null, .null, .null, .null, .null, .null, .null, .int 0])) : Gt X mX6_init 3 [.ref 0] 1 h 50 526 (fun h' => DeskAt h' D0) := by
  refine Gt_of (ini := True) jmX6_init rfl (fun _ => rfl) [some (.ref 0), none] (Nat.le_of_ble_eq_true rfl) rfl ?_
  show G X True RX6 cX6_init 2 3 (gRet X _ _ _) _ _ _ 0 _ _ _ _ _
  refine G_aload_0 dX6_init_0 ?_
  refine G_obj dX6_init_1 gob_X6 (by decide) (Nat.le_of_ble_eq_true rfl) ?_
  refine G_aload_0 dX6_init_4 ?_
  refine G_iconst (v := nI 2) dX6_init_5 (by decide) ?_
  refine G_newq (i := 1) (t := 3) dX6_init_6 gcl_X6_9 (fun s h => h.2.2.2.1) rfl (by omega) (by decide) (by omega) (by omega) (by omega) ?_
  refine G_putF trivial dX6_init_9 gff_X6_11 (hAt_ne h00 (by decide)) (by decide) (Nat.le_of_ble_eq_true rfl) rfl rfl ?_
  refine G_aload_0 dX6_init_12 ?_
  refine G_bipush (v := nI 6) dX6_init_13 (by decide) ?_
  refine G_newa (i := 2) dX6_init_15 (by omega) (by decide) (by omega) (by omega) (by omega) ?_
  refine G_putF trivial dX6_init_17 gff_X6_15 (hAt_ne (hAt_s (show _ < 71 by decide)) (by decide)) (by decide) (Nat.le_of_ble_eq_true rfl) rfl rfl ?_
  refine G_aload_0 dX6_init_20 ?_
  refine G_gs0 dX6_init_21 fs_X6_19 ?_
  refine G_tn0 dX6_init_24 ?_
  refine G_newa (i := 3) dX6_init_25 (by omega) (by decide) (by omega) (by omega) (by omega) ?_
  refine G_putF trivial dX6_init_27 gff_X6_22 (hAt_ne (hAt_s (show _ < 71 by decide)) (by decide)) (by decide) (Nat.le_of_ble_eq_true rfl) rfl rfl ?_
  refine G_aload_0 dX6_init_30 ?_
  refine G_iconst (v := nI 4) dX6_init_31 (by decide) ?_
  refine G_newq (i := 4) (t := 4) dX6_init_32 gcl_X6_25 (fun s h => h.2.2.2.2.2.1) rfl (by omega) (by decide) (by omega) (by omega) (by omega) ?_
  refine G_putF trivial dX6_init_35 gff_X6_27 (hAt_ne (hAt_s (show _ < 71 by decide)) (by decide)) (by decide) (Nat.le_of_ble_eq_true rfl) rfl rfl ?_
  refine G_aload_0 dX6_init_38 ?_
  refine G_iconst (v := nI 2) dX6_init_39 (by decide) ?_
  refine G_newq (i := 5) (t := 5) dX6_init_40 gcl_X6_31 (fun s h => h.2.2.2.2.2.2) rfl (by omega) (by decide) (by omega) (by omega) (by omega) ?_
  refine G_putF trivial dX6_init_43 gff_X6_33 (hAt_ne (hAt_s (show _ < 71 by decide)) (by decide)) (by decide) (Nat.le_of_ble_eq_true rfl) rfl rfl ?_
  refine G_aload_0 dX6_init_46 ?_
  refine G_new (i := 6) (fs := [.null, .null, .null, .null, .int 0]) dX6_init_47 gnw_X6_31 (fun j hj => by rcases (show j = 0 ∨ j = 1 ∨ j = 2 ∨ j = 3 ∨ j = 4 by omega) with rfl | rfl | rfl | rfl | rfl <;> rfl) (by decide) (by omega) (by omega) (by omega) ?_
  refine G_dup dX6_init_50 rfl ?_
  refine G_bipush (v := nI 16) dX6_init_51 (by decide) ?_
  refine G_ctor (a := 6) (As := [.int (nI 16)]) dX6_init_53 jmX5_init rfl gmi_X6_37 rfl rfl (Nat.le_of_ble_eq_true rfl) (by decide) (g_spans (cap := 16) (by decide) (hAt_s (show _ < 71 by decide)) (by decide) (by decide) (by decide)) (by omega) (by omega) (fun h1 q1 => ?_)
  obtain ⟨q1a, q1r, q1o⟩ := q1
  refine G_putF trivial dX6_init_56 gff_X6_40 (hAt_off (hAt_ne (hAt_s (show _ < 71 by decide)) (by decide)) q1o (by decide)) (by decide) (Nat.le_of_ble_eq_true rfl) rfl rfl ?_
  refine G_aload_0 dX6_init_59 ?_
  refine G_new (i := 11) (fs := [.null, .int 0]) dX6_init_60 gnw_X6_44 (fun j hj => by rcases (show j = 0 ∨ j = 1 by omega) with rfl | rfl <;> rfl) (by decide) (by omega) (by omega) (by omega) ?_
  refine G_dup dX6_init_63 rfl ?_
  refine G_ctorN (a := 11) (As := []) dX6_init_64 jmX3_init rfl gmn_X6_46 rfl rfl (Nat.le_of_ble_eq_true rfl) (by decide) (g_match (hAt_s (show _ < 71 by decide)) (by decide) (by decide) (by decide)) (by omega) (by omega) (fun h2 q2 => ?_)
  obtain ⟨q2a, q2r, q2o⟩ := q2
  refine G_putF trivial dX6_init_67 gff_X6_47 (hAt_off (hAt_ne (hAt_s (show _ < 71 by decide)) (by decide)) q2o (by decide)) (by decide) (Nat.le_of_ble_eq_true rfl) rfl rfl ?_
  refine G_iconst (v := nI 0) dX6_init_70 (by decide) ?_
  refine G_istore_1 dX6_init_71 (Nat.le_of_ble_eq_true rfl) rfl ?_
  refine G_iload_1 dX6_init_72 ?_
  refine G_iconst (v := nI 2) dX6_init_73 (by decide) ?_
  refine G_icmp_geN (tgt := 111) dX6_init_74 (by decide) (by omega) (by omega) (fun c => absurd c (by omega)) (fun _ => ?_)
  refine G_aload_0 dX6_init_77 ?_
  refine G_get dX6_init_78 fl_X6_11 (hAt_s (show _ < 71 by decide)) (by decide) rfl ?_
  refine G_iload_1 dX6_init_81 ?_
  refine G_new (i := 13) (fs := [.null, .int 0]) dX6_init_82 gnw_X6_9 (fun j hj => by rcases (show j = 0 ∨ j = 1 by omega) with rfl | rfl <;> rfl) (by decide) (by omega) (by omega) (by omega) ?_
  refine G_dup dX6_init_85 rfl ?_
  refine G_ctor (a := 13) (As := []) dX6_init_86 jmX1_init rfl gmi_X6_51 rfl rfl (Nat.le_of_ble_eq_true rfl) (by decide) (g_cut (hAt_s (show _ < 71 by decide)) (by decide) (by decide) (by decide)) (by omega) (by omega) (fun h3 q3 => ?_)
  obtain ⟨q3a, ⟨q3f, q3r, q3g⟩, q3e, q3o⟩ := q3
  refine G_aast dX6_init_89 (hAt_off (hAt_ne (hAt_ne (hAt_off (hAt_ne (hAt_ne (hAt_off (hAt_ne (hAt_ne (hAt_ne (hAt_ne (hAt_ne (hAt_ne (hAt_ne (hAt_ne (hAt_ne (hAt_ne (hAt_s (show _ < 71 by decide)) (by decide)) (by decide)) (by decide)) (by decide)) (by decide)) (by decide)) (by decide)) (by decide)) (by decide)) (by decide)) q1o (by decide)) (by decide)) (by decide)) q2o (by decide)) (by decide)) (by decide)) q3o (by decide)) (by decide) q3a (by decide) rfl rfl rfl (by omega) (by omega) ?_
  refine G_aload_0 dX6_init_90 ?_
  refine G_get dX6_init_91 fl_X6_33 (hAt_ne (hAt_off (hAt_ne (hAt_s (show _ < 71 by decide)) (by decide)) q3o (by decide)) (by decide)) (by decide) rfl ?_
  refine G_iload_1 dX6_init_94 ?_
  refine G_new (i := 33) (fs := [.null, .null, .null, .null, .int 0]) dX6_init_95 gnw_X6_31 (fun j hj => by rcases (show j = 0 ∨ j = 1 ∨ j = 2 ∨ j = 3 ∨ j = 4 by omega) with rfl | rfl | rfl | rfl | rfl <;> rfl) (by decide) (by omega) (by omega) (by omega) ?_
  refine G_dup dX6_init_98 rfl ?_
  refine G_bipush (v := nI 8) dX6_init_99 (by decide) ?_
  refine G_ctor (a := 33) (As := [.int (nI 8)]) dX6_init_101 jmX5_init rfl gmi_X6_37 rfl rfl (Nat.le_of_ble_eq_true rfl) (by decide) (g_spans (cap := 8) (by decide) (hAt_s (show _ < 71 by decide)) (by decide) (by decide) (by decide)) (by omega) (by omega) (fun h4 q4 => ?_)
  obtain ⟨q4a, q4r, q4o⟩ := q4
  refine G_aast dX6_init_104 (hAt_off (hAt_ne (hAt_ne (hAt_off (hAt_ne (hAt_ne (hAt_off (hAt_ne (hAt_ne (hAt_off (hAt_ne (hAt_ne (hAt_s (show _ < 71 by decide)) (by decide)) (by decide)) q1o (by decide)) (by decide)) (by decide)) q2o (by decide)) (by decide)) (by decide)) q3o (by decide)) (by decide)) (by decide)) q4o (by decide)) (by decide) q4a (by decide) rfl rfl rfl (by omega) (by omega) ?_
  refine G_inc_1 dX6_init_105 (Nat.le_of_ble_eq_true rfl) rfl ?_
  refine G_goto (tgt := 72) dX6_init_108 (by decide) ?_
  refine G_iload_1 dX6_init_72 ?_
  refine G_iconst (v := nI 2) dX6_init_73 (by decide) ?_
  refine G_icmp_geN (tgt := 111) dX6_init_74 (by decide) (by omega) (by omega) (fun c => absurd c (by omega)) (fun _ => ?_)
  refine G_aload_0 dX6_init_77 ?_
  refine G_get dX6_init_78 fl_X6_11 (hAt_ne (hAt_off (hAt_ne (hAt_ne (hAt_off (hAt_ne (hAt_s (show _ < 71 by decide)) (by decide)) q3o (by decide)) (by decide)) (by decide)) q4o (by decide)) (by decide)) (by decide) rfl ?_
  refine G_iload_1 dX6_init_81 ?_
  refine G_new (i := 23) (fs := [.null, .int 0]) dX6_init_82 gnw_X6_9 (fun j hj => by rcases (show j = 0 ∨ j = 1 by omega) with rfl | rfl <;> rfl) (by decide) (by omega) (by omega) (by omega) ?_
  refine G_dup dX6_init_85 rfl ?_
  refine G_ctor (a := 23) (As := []) dX6_init_86 jmX1_init rfl gmi_X6_51 rfl rfl (Nat.le_of_ble_eq_true rfl) (by decide) (g_cut (hAt_s (show _ < 71 by decide)) (by decide) (by decide) (by decide)) (by omega) (by omega) (fun h5 q5 => ?_)
  obtain ⟨q5a, ⟨q5f, q5r, q5g⟩, q5e, q5o⟩ := q5
  refine G_aast dX6_init_89 (hAt_off (hAt_ne (hAt_ne (hAt_off (hAt_ne (hAt_s (show _ < 71 by decide)) (by decide)) q4o (by decide)) (by decide)) (by decide)) q5o (by decide)) (by decide) q5a (by decide) rfl rfl rfl (by omega) (by omega) ?_
  refine G_aload_0 dX6_init_90 ?_
  refine G_get dX6_init_91 fl_X6_33 (hAt_ne (hAt_off (hAt_ne (hAt_ne (hAt_off (hAt_ne (hAt_ne (hAt_off (hAt_ne (hAt_s (show _ < 71 by decide)) (by decide)) q3o (by decide)) (by decide)) (by decide)) q4o (by decide)) (by decide)) (by decide)) q5o (by decide)) (by decide)) (by decide) rfl ?_
  refine G_iload_1 dX6_init_94 ?_
  refine G_new (i := 38) (fs := [.null, .null, .null, .null, .int 0]) dX6_init_95 gnw_X6_31 (fun j hj => by rcases (show j = 0 ∨ j = 1 ∨ j = 2 ∨ j = 3 ∨ j = 4 by omega) with rfl | rfl | rfl | rfl | rfl <;> rfl) (by decide) (by omega) (by omega) (by omega) ?_
  refine G_dup dX6_init_98 rfl ?_
  refine G_bipush (v := nI 8) dX6_init_99 (by decide) ?_
  refine G_ctor (a := 38) (As := [.int (nI 8)]) dX6_init_101 jmX5_init rfl gmi_X6_37 rfl rfl (Nat.le_of_ble_eq_true rfl) (by decide) (g_spans (cap := 8) (by decide) (hAt_s (show _ < 71 by decide)) (by decide) (by decide) (by decide)) (by omega) (by omega) (fun h6 q6 => ?_)
  obtain ⟨q6a, q6r, q6o⟩ := q6
  refine G_aast dX6_init_104 (hAt_off (hAt_ne (hAt_ne (hAt_off (hAt_ne (hAt_s (show _ < 71 by decide)) (by decide)) q5o (by decide)) (by decide)) (by decide)) q6o (by decide)) (by decide) q6a (by decide) rfl rfl rfl (by omega) (by omega) ?_
  refine G_inc_1 dX6_init_105 (Nat.le_of_ble_eq_true rfl) rfl ?_
  refine G_goto (tgt := 72) dX6_init_108 (by decide) ?_
  refine G_iload_1 dX6_init_72 ?_
  refine G_iconst (v := nI 2) dX6_init_73 (by decide) ?_
  refine G_icmp_geN (tgt := 111) dX6_init_74 (by decide) (by omega) (by omega) (fun _ => ?_) (fun c => absurd c (by omega))
  refine G_iconst (v := nI 0) dX6_init_111 (by decide) ?_
  refine G_istore_1 dX6_init_112 (Nat.le_of_ble_eq_true rfl) rfl ?_
  refine G_iload_1 dX6_init_113 ?_
  refine G_iconst (v := nI 4) dX6_init_114 (by decide) ?_
  refine G_icmp_geN (tgt := 137) dX6_init_115 (by decide) (by omega) (by omega) (fun c => absurd c (by omega)) (fun _ => ?_)
  refine G_aload_0 dX6_init_118 ?_
  refine G_get dX6_init_119 fl_X6_27 (hAt_ne (hAt_off (hAt_ne (hAt_ne (hAt_off (hAt_ne (hAt_ne (hAt_off (hAt_ne (hAt_ne (hAt_off (hAt_ne (hAt_s (show _ < 71 by decide)) (by decide)) q3o (by decide)) (by decide)) (by decide)) q4o (by decide)) (by decide)) (by decide)) q5o (by decide)) (by decide)) (by decide)) q6o (by decide)) (by decide)) (by decide) rfl ?_
  refine G_iload_1 dX6_init_122 ?_
  refine G_new (i := 43) (fs := [.null, .int 0, .int 0, .int 0]) dX6_init_123 gnw_X6_25 (fun j hj => by rcases (show j = 0 ∨ j = 1 ∨ j = 2 ∨ j = 3 by omega) with rfl | rfl | rfl | rfl <;> rfl) (by decide) (by omega) (by omega) (by omega) ?_
  refine G_dup dX6_init_126 rfl ?_
  refine G_ctorN (a := 43) (As := []) dX6_init_127 jmX4_init rfl gmn_X6_52 rfl rfl (Nat.le_of_ble_eq_true rfl) (by decide) (g_sheet (hAt_s (show _ < 71 by decide)) (by decide) (by decide) (by decide)) (by omega) (by omega) (fun h7 q7 => ?_)
  obtain ⟨q7a, q7r, q7o⟩ := q7
  refine G_aast dX6_init_130 (hAt_off (hAt_ne (hAt_ne (hAt_off (hAt_ne (hAt_ne (hAt_off (hAt_ne (hAt_ne (hAt_off (hAt_ne (hAt_ne (hAt_off (hAt_ne (hAt_ne (hAt_off (hAt_ne (hAt_ne (hAt_off (hAt_ne (hAt_ne (hAt_ne (hAt_ne (hAt_s (show _ < 71 by decide)) (by decide)) (by decide)) (by decide)) (by decide)) q1o (by decide)) (by decide)) (by decide)) q2o (by decide)) (by decide)) (by decide)) q3o (by decide)) (by decide)) (by decide)) q4o (by decide)) (by decide)) (by decide)) q5o (by decide)) (by decide)) (by decide)) q6o (by decide)) (by decide)) (by decide)) q7o (by decide)) (by decide) q7a (by decide) rfl rfl rfl (by omega) (by omega) ?_
  refine G_inc_1 dX6_init_131 (Nat.le_of_ble_eq_true rfl) rfl ?_
  refine G_goto (tgt := 113) dX6_init_134 (by decide) ?_
  refine G_iload_1 dX6_init_113 ?_
  refine G_iconst (v := nI 4) dX6_init_114 (by decide) ?_
  refine G_icmp_geN (tgt := 137) dX6_init_115 (by decide) (by omega) (by omega) (fun c => absurd c (by omega)) (fun _ => ?_)
  refine G_aload_0 dX6_init_118 ?_
  refine G_get dX6_init_119 fl_X6_27 (hAt_ne (hAt_off (hAt_ne (hAt_ne (hAt_off (hAt_ne (hAt_ne (hAt_off (hAt_ne (hAt_ne (hAt_off (hAt_ne (hAt_ne (hAt_off (hAt_ne (hAt_s (show _ < 71 by decide)) (by decide)) q3o (by decide)) (by decide)) (by decide)) q4o (by decide)) (by decide)) (by decide)) q5o (by decide)) (by decide)) (by decide)) q6o (by decide)) (by decide)) (by decide)) q7o (by decide)) (by decide)) (by decide) rfl ?_
  refine G_iload_1 dX6_init_122 ?_
  refine G_new (i := 45) (fs := [.null, .int 0, .int 0, .int 0]) dX6_init_123 gnw_X6_25 (fun j hj => by rcases (show j = 0 ∨ j = 1 ∨ j = 2 ∨ j = 3 by omega) with rfl | rfl | rfl | rfl <;> rfl) (by decide) (by omega) (by omega) (by omega) ?_
  refine G_dup dX6_init_126 rfl ?_
  refine G_ctorN (a := 45) (As := []) dX6_init_127 jmX4_init rfl gmn_X6_52 rfl rfl (Nat.le_of_ble_eq_true rfl) (by decide) (g_sheet (hAt_s (show _ < 71 by decide)) (by decide) (by decide) (by decide)) (by omega) (by omega) (fun h8 q8 => ?_)
  obtain ⟨q8a, q8r, q8o⟩ := q8
  refine G_aast dX6_init_130 (hAt_off (hAt_ne (hAt_s (show _ < 71 by decide)) (by decide)) q8o (by decide)) (by decide) q8a (by decide) rfl rfl rfl (by omega) (by omega) ?_
  refine G_inc_1 dX6_init_131 (Nat.le_of_ble_eq_true rfl) rfl ?_
  refine G_goto (tgt := 113) dX6_init_134 (by decide) ?_
  refine G_iload_1 dX6_init_113 ?_
  refine G_iconst (v := nI 4) dX6_init_114 (by decide) ?_
  refine G_icmp_geN (tgt := 137) dX6_init_115 (by decide) (by omega) (by omega) (fun c => absurd c (by omega)) (fun _ => ?_)
  refine G_aload_0 dX6_init_118 ?_
  refine G_get dX6_init_119 fl_X6_27 (hAt_ne (hAt_off (hAt_ne (hAt_ne (hAt_off (hAt_ne (hAt_ne (hAt_off (hAt_ne (hAt_ne (hAt_off (hAt_ne (hAt_ne (hAt_off (hAt_ne (hAt_ne (hAt_off (hAt_ne (hAt_s (show _ < 71 by decide)) (by decide)) q3o (by decide)) (by decide)) (by decide)) q4o (by decide)) (by decide)) (by decide)) q5o (by decide)) (by decide)) (by decide)) q6o (by decide)) (by decide)) (by decide)) q7o (by decide)) (by decide)) (by decide)) q8o (by decide)) (by decide)) (by decide) rfl ?_
  refine G_iload_1 dX6_init_122 ?_
  refine G_new (i := 47) (fs := [.null, .int 0, .int 0, .int 0]) dX6_init_123 gnw_X6_25 (fun j hj => by rcases (show j = 0 ∨ j = 1 ∨ j = 2 ∨ j = 3 by omega) with rfl | rfl | rfl | rfl <;> rfl) (by decide) (by omega) (by omega) (by omega) ?_
  refine G_dup dX6_init_126 rfl ?_
  refine G_ctorN (a := 47) (As := []) dX6_init_127 jmX4_init rfl gmn_X6_52 rfl rfl (Nat.le_of_ble_eq_true rfl) (by decide) (g_sheet (hAt_s (show _ < 71 by decide)) (by decide) (by decide) (by decide)) (by omega) (by omega) (fun h9 q9 => ?_)
  obtain ⟨q9a, q9r, q9o⟩ := q9
  refine G_aast dX6_init_130 (hAt_off (hAt_ne (hAt_s (show _ < 71 by decide)) (by decide)) q9o (by decide)) (by decide) q9a (by decide) rfl rfl rfl (by omega) (by omega) ?_
  refine G_inc_1 dX6_init_131 (Nat.le_of_ble_eq_true rfl) rfl ?_
  refine G_goto (tgt := 113) dX6_init_134 (by decide) ?_
  refine G_iload_1 dX6_init_113 ?_
  refine G_iconst (v := nI 4) dX6_init_114 (by decide) ?_
  refine G_icmp_geN (tgt := 137) dX6_init_115 (by decide) (by omega) (by omega) (fun c => absurd c (by omega)) (fun _ => ?_)
  refine G_aload_0 dX6_init_118 ?_
  refine G_get dX6_init_119 fl_X6_27 (hAt_ne (hAt_off (hAt_ne (hAt_ne (hAt_off (hAt_ne (hAt_ne (hAt_off (hAt_ne (hAt_ne (hAt_off (hAt_ne (hAt_ne (hAt_off (hAt_ne (hAt_ne (hAt_off (hAt_ne (hAt_ne (hAt_off (hAt_ne (hAt_s (show _ < 71 by decide)) (by decide)) q3o (by decide)) (by decide)) (by decide)) q4o (by decide)) (by decide)) (by decide)) q5o (by decide)) (by decide)) (by decide)) q6o (by decide)) (by decide)) (by decide)) q7o (by decide)) (by decide)) (by decide)) q8o (by decide)) (by decide)) (by decide)) q9o (by decide)) (by decide)) (by decide) rfl ?_
  refine G_iload_1 dX6_init_122 ?_
  refine G_new (i := 49) (fs := [.null, .int 0, .int 0, .int 0]) dX6_init_123 gnw_X6_25 (fun j hj => by rcases (show j = 0 ∨ j = 1 ∨ j = 2 ∨ j = 3 by omega) with rfl | rfl | rfl | rfl <;> rfl) (by decide) (by omega) (by omega) (by omega) ?_
  refine G_dup dX6_init_126 rfl ?_
  refine G_ctorN (a := 49) (As := []) dX6_init_127 jmX4_init rfl gmn_X6_52 rfl rfl (Nat.le_of_ble_eq_true rfl) (by decide) (g_sheet (hAt_s (show _ < 71 by decide)) (by decide) (by decide) (by decide)) (by omega) (by omega) (fun h10 q10 => ?_)
  obtain ⟨q10a, q10r, q10o⟩ := q10
  refine G_aast dX6_init_130 (hAt_off (hAt_ne (hAt_s (show _ < 71 by decide)) (by decide)) q10o (by decide)) (by decide) q10a (by decide) rfl rfl rfl (by omega) (by omega) ?_
  refine G_inc_1 dX6_init_131 (Nat.le_of_ble_eq_true rfl) rfl ?_
  refine G_goto (tgt := 113) dX6_init_134 (by decide) ?_
  refine G_iload_1 dX6_init_113 ?_
  refine G_iconst (v := nI 4) dX6_init_114 (by decide) ?_
  refine G_icmp_geN (tgt := 137) dX6_init_115 (by decide) (by omega) (by omega) (fun _ => ?_) (fun c => absurd c (by omega))
  refine G_aload_0 dX6_init_137 ?_
  refine G_get dX6_init_138 fl_X6_15 (hAt_ne (hAt_off (hAt_ne (hAt_ne (hAt_off (hAt_ne (hAt_ne (hAt_off (hAt_ne (hAt_ne (hAt_off (hAt_ne (hAt_ne (hAt_off (hAt_ne (hAt_ne (hAt_off (hAt_ne (hAt_ne (hAt_off (hAt_ne (hAt_ne (hAt_off (hAt_ne (hAt_s (show _ < 71 by decide)) (by decide)) q3o (by decide)) (by decide)) (by decide)) q4o (by decide)) (by decide)) (by decide)) q5o (by decide)) (by decide)) (by decide)) q6o (by decide)) (by decide)) (by decide)) q7o (by decide)) (by decide)) (by decide)) q8o (by decide)) (by decide)) (by decide)) q9o (by decide)) (by decide)) (by decide)) q10o (by decide)) (by decide)) (by decide) rfl ?_
  refine G_ldc dX6_init_141 kc_X6_53 ?_
  refine G_stat (As := [.ref 2, .int (nI 100000)]) dX6_init_143 jmJ7_fill_53178 ms_X6_54 rfl rfl (Nat.le_of_ble_eq_true rfl) (by decide) (g_fill (m := 6) (by decide) (hAt_ne (hAt_off (hAt_ne (hAt_ne (hAt_off (hAt_ne (hAt_ne (hAt_off (hAt_ne (hAt_ne (hAt_off (hAt_ne (hAt_ne (hAt_off (hAt_ne (hAt_ne (hAt_off (hAt_ne (hAt_ne (hAt_off (hAt_ne (hAt_ne (hAt_off (hAt_ne (hAt_ne (hAt_off (hAt_ne (hAt_ne (hAt_off (hAt_ne (hAt_ne (hAt_ne (hAt_ne (hAt_ne (hAt_ne (hAt_ne (hAt_ne (hAt_s (show _ < 71 by decide)) (by decide)) (by decide)) (by decide)) (by decide)) (by decide)) (by decide)) (by decide)) (by decide)) q1o (by decide)) (by decide)) (by decide)) q2o (by decide)) (by decide)) (by decide)) q3o (by decide)) (by decide)) (by decide)) q4o (by decide)) (by decide)) (by decide)) q5o (by decide)) (by decide)) (by decide)) q6o (by decide)) (by decide)) (by decide)) q7o (by decide)) (by decide)) (by decide)) q8o (by decide)) (by decide)) (by decide)) q9o (by decide)) (by decide)) (by decide)) q10o (by decide)) (by decide)) (by decide)) (by omega) (by omega) (fun h11 q11 => ?_)
  obtain ⟨⟨q11f, q11r, q11g⟩, q11o⟩ := q11
  refine G_aload_0 dX6_init_146 ?_
  refine G_get dX6_init_147 fl_X6_22 (hAt_off (hAt_ne (hAt_off (hAt_ne (hAt_ne (hAt_off (hAt_ne (hAt_ne (hAt_off (hAt_ne (hAt_ne (hAt_off (hAt_ne (hAt_ne (hAt_off (hAt_ne (hAt_ne (hAt_off (hAt_ne (hAt_ne (hAt_off (hAt_ne (hAt_ne (hAt_off (hAt_ne (hAt_s (show _ < 71 by decide)) (by decide)) q3o (by decide)) (by decide)) (by decide)) q4o (by decide)) (by decide)) (by decide)) q5o (by decide)) (by decide)) (by decide)) q6o (by decide)) (by decide)) (by decide)) q7o (by decide)) (by decide)) (by decide)) q8o (by decide)) (by decide)) (by decide)) q9o (by decide)) (by decide)) (by decide)) q10o (by decide)) (by decide)) q11o (by decide)) (by decide) rfl ?_
  refine G_iconst (v := nI 1) dX6_init_150 (by decide) ?_
  refine G_bipush (v := nI 10) dX6_init_151 (by decide) ?_
  refine G_iast dX6_init_153 (hAt_off (hAt_ne (hAt_off (hAt_ne (hAt_ne (hAt_off (hAt_ne (hAt_ne (hAt_off (hAt_ne (hAt_ne (hAt_off (hAt_ne (hAt_ne (hAt_off (hAt_ne (hAt_ne (hAt_off (hAt_ne (hAt_ne (hAt_off (hAt_ne (hAt_ne (hAt_off (hAt_ne (hAt_ne (hAt_off (hAt_ne (hAt_ne (hAt_off (hAt_ne (hAt_ne (hAt_ne (hAt_ne (hAt_ne (hAt_ne (hAt_s (show _ < 71 by decide)) (by decide)) (by decide)) (by decide)) (by decide)) (by decide)) (by decide)) q1o (by decide)) (by decide)) (by decide)) q2o (by decide)) (by decide)) (by decide)) q3o (by decide)) (by decide)) (by decide)) q4o (by decide)) (by decide)) (by decide)) q5o (by decide)) (by decide)) (by decide)) q6o (by decide)) (by decide)) (by decide)) q7o (by decide)) (by decide)) (by decide)) q8o (by decide)) (by decide)) (by decide)) q9o (by decide)) (by decide)) (by decide)) q10o (by decide)) (by decide)) q11o (by decide)) (by decide) rfl (by omega) (by omega) ?_
  refine G_vret dX6_init_154 (by omega) (by omega) ⟨fun l => if l = 0 then 13 else 23, fun _ _ => x0, (hAt_ne (hAt_off (hAt_ne (hAt_off (hAt_ne (hAt_ne (hAt_off (hAt_ne (hAt_ne (hAt_off (hAt_ne (hAt_ne (hAt_off (hAt_ne (hAt_ne (hAt_off (hAt_ne (hAt_ne (hAt_off (hAt_ne (hAt_ne (hAt_off (hAt_ne (hAt_ne (hAt_off (hAt_ne (hAt_s (show _ < 71 by decide)) (by decide)) q3o (by decide)) (by decide)) (by decide)) q4o (by decide)) (by decide)) (by decide)) q5o (by decide)) (by decide)) (by decide)) q6o (by decide)) (by decide)) (by decide)) q7o (by decide)) (by decide)) (by decide)) q8o (by decide)) (by decide)) (by decide)) q9o (by decide)) (by decide)) (by decide)) q10o (by decide)) (by decide)) q11o (by decide)) (by decide)), ⟨_, (hAt_ne (hAt_off (hAt_ne (hAt_off (hAt_ne (hAt_ne (hAt_off (hAt_ne (hAt_ne (hAt_off (hAt_ne (hAt_ne (hAt_off (hAt_ne (hAt_ne (hAt_off (hAt_ne (hAt_s (show _ < 71 by decide)) (by decide)) q6o (by decide)) (by decide)) (by decide)) q7o (by decide)) (by decide)) (by decide)) q8o (by decide)) (by decide)) (by decide)) q9o (by decide)) (by decide)) (by decide)) q10o (by decide)) (by decide)) q11o (by decide)) (by decide)), fun l hl => ?_⟩, Or.inl ⟨rfl, rfl⟩, fun l hl => ?_, ⟨_, (hAt_ne q11r (by decide)), ?_⟩, ⟨_, (hAt_s (show _ < 71 by decide)), fun j hj => ?_⟩, ⟨_, (hAt_ne (hAt_off (hAt_s (show _ < 71 by decide)) q11o (by decide)) (by decide)), fun s hs => ?_⟩, fun s hs => ?_, ⟨_, (hAt_ne (hAt_off (hAt_ne (hAt_off (hAt_ne (hAt_ne (hAt_off (hAt_ne (hAt_ne (hAt_off (hAt_ne (hAt_ne (hAt_off (hAt_ne (hAt_s (show _ < 71 by decide)) (by decide)) q7o (by decide)) (by decide)) (by decide)) q8o (by decide)) (by decide)) (by decide)) q9o (by decide)) (by decide)) (by decide)) q10o (by decide)) (by decide)) q11o (by decide)) (by decide)), fun l hl => ?_⟩, ⟨0, fun _ _ => 0, (hAt_ne (hAt_off (hAt_ne (hAt_off (hAt_ne (hAt_ne (hAt_off (hAt_ne (hAt_ne (hAt_off (hAt_ne (hAt_ne (hAt_off (hAt_ne (hAt_ne (hAt_off (hAt_ne (hAt_ne (hAt_off (hAt_ne (hAt_ne (hAt_off (hAt_ne (hAt_ne (hAt_off (hAt_ne (hAt_ne (hAt_off (hAt_ne (hAt_ne q1a (by decide)) (by decide)) q2o (by decide)) (by decide)) (by decide)) q3o (by decide)) (by decide)) (by decide)) q4o (by decide)) (by decide)) (by decide)) q5o (by decide)) (by decide)) (by decide)) q6o (by decide)) (by decide)) (by decide)) q7o (by decide)) (by decide)) (by decide)) q8o (by decide)) (by decide)) (by decide)) q9o (by decide)) (by decide)) (by decide)) q10o (by decide)) (by decide)) q11o (by decide)) (by decide)), (hAt_ne (hAt_off (hAt_ne (hAt_off (hAt_ne (hAt_ne (hAt_off (hAt_ne (hAt_ne (hAt_off (hAt_ne (hAt_ne (hAt_off (hAt_ne (hAt_ne (hAt_off (hAt_ne (hAt_ne (hAt_off (hAt_ne (hAt_ne (hAt_off (hAt_ne (hAt_ne (hAt_off (hAt_ne (hAt_ne (hAt_off (hAt_ne (hAt_ne (q1r 0 (by decide)) (by decide)) (by decide)) q2o (by decide)) (by decide)) (by decide)) q3o (by decide)) (by decide)) (by decide)) q4o (by decide)) (by decide)) (by decide)) q5o (by decide)) (by decide)) (by decide)) q6o (by decide)) (by decide)) (by decide)) q7o (by decide)) (by decide)) (by decide)) q8o (by decide)) (by decide)) (by decide)) q9o (by decide)) (by decide)) (by decide)) q10o (by decide)) (by decide)) q11o (by decide)) (by decide)), (hAt_ne (hAt_off (hAt_ne (hAt_off (hAt_ne (hAt_ne (hAt_off (hAt_ne (hAt_ne (hAt_off (hAt_ne (hAt_ne (hAt_off (hAt_ne (hAt_ne (hAt_off (hAt_ne (hAt_ne (hAt_off (hAt_ne (hAt_ne (hAt_off (hAt_ne (hAt_ne (hAt_off (hAt_ne (hAt_ne (hAt_off (hAt_ne (hAt_ne (q1r 1 (by decide)) (by decide)) (by decide)) q2o (by decide)) (by decide)) (by decide)) q3o (by decide)) (by decide)) (by decide)) q4o (by decide)) (by decide)) (by decide)) q5o (by decide)) (by decide)) (by decide)) q6o (by decide)) (by decide)) (by decide)) q7o (by decide)) (by decide)) (by decide)) q8o (by decide)) (by decide)) (by decide)) q9o (by decide)) (by decide)) (by decide)) q10o (by decide)) (by decide)) q11o (by decide)) (by decide)), (hAt_ne (hAt_off (hAt_ne (hAt_off (hAt_ne (hAt_ne (hAt_off (hAt_ne (hAt_ne (hAt_off (hAt_ne (hAt_ne (hAt_off (hAt_ne (hAt_ne (hAt_off (hAt_ne (hAt_ne (hAt_off (hAt_ne (hAt_ne (hAt_off (hAt_ne (hAt_ne (hAt_off (hAt_ne (hAt_ne (hAt_off (hAt_ne (hAt_ne (q1r 2 (by decide)) (by decide)) (by decide)) q2o (by decide)) (by decide)) (by decide)) q3o (by decide)) (by decide)) (by decide)) q4o (by decide)) (by decide)) (by decide)) q5o (by decide)) (by decide)) (by decide)) q6o (by decide)) (by decide)) (by decide)) q7o (by decide)) (by decide)) (by decide)) q8o (by decide)) (by decide)) (by decide)) q9o (by decide)) (by decide)) (by decide)) q10o (by decide)) (by decide)) q11o (by decide)) (by decide)), (hAt_ne (hAt_off (hAt_ne (hAt_off (hAt_ne (hAt_ne (hAt_off (hAt_ne (hAt_ne (hAt_off (hAt_ne (hAt_ne (hAt_off (hAt_ne (hAt_ne (hAt_off (hAt_ne (hAt_ne (hAt_off (hAt_ne (hAt_ne (hAt_off (hAt_ne (hAt_ne (hAt_off (hAt_ne (hAt_ne (hAt_off (hAt_ne (hAt_ne (q1r 3 (by decide)) (by decide)) (by decide)) q2o (by decide)) (by decide)) (by decide)) q3o (by decide)) (by decide)) (by decide)) q4o (by decide)) (by decide)) (by decide)) q5o (by decide)) (by decide)) (by decide)) q6o (by decide)) (by decide)) (by decide)) q7o (by decide)) (by decide)) (by decide)) q8o (by decide)) (by decide)) (by decide)) q9o (by decide)) (by decide)) (by decide)) q10o (by decide)) (by decide)) q11o (by decide)) (by decide)), by decide, by decide⟩, fun l hl => ?_, ⟨0, fun _ => 0, (hAt_ne (hAt_off (hAt_ne (hAt_off (hAt_ne (hAt_ne (hAt_off (hAt_ne (hAt_ne (hAt_off (hAt_ne (hAt_ne (hAt_off (hAt_ne (hAt_ne (hAt_off (hAt_ne (hAt_ne (hAt_off (hAt_ne (hAt_ne (hAt_off (hAt_ne (hAt_ne (hAt_off (hAt_ne (hAt_ne q2a (by decide)) (by decide)) q3o (by decide)) (by decide)) (by decide)) q4o (by decide)) (by decide)) (by decide)) q5o (by decide)) (by decide)) (by decide)) q6o (by decide)) (by decide)) (by decide)) q7o (by decide)) (by decide)) (by decide)) q8o (by decide)) (by decide)) (by decide)) q9o (by decide)) (by decide)) (by decide)) q10o (by decide)) (by decide)) q11o (by decide)) (by decide)), (hAt_ne (hAt_off (hAt_ne (hAt_off (hAt_ne (hAt_ne (hAt_off (hAt_ne (hAt_ne (hAt_off (hAt_ne (hAt_ne (hAt_off (hAt_ne (hAt_ne (hAt_off (hAt_ne (hAt_ne (hAt_off (hAt_ne (hAt_ne (hAt_off (hAt_ne (hAt_ne (hAt_off (hAt_ne (hAt_ne q2r (by decide)) (by decide)) q3o (by decide)) (by decide)) (by decide)) q4o (by decide)) (by decide)) (by decide)) q5o (by decide)) (by decide)) (by decide)) q6o (by decide)) (by decide)) (by decide)) q7o (by decide)) (by decide)) (by decide)) q8o (by decide)) (by decide)) (by decide)) q9o (by decide)) (by decide)) (by decide)) q10o (by decide)) (by decide)) q11o (by decide)) (by decide))⟩, fun l e hl he => absurd he (Nat.not_lt_zero _), dok_D0⟩
  · rcases (show l = 0 ∨ l = 1 by omega) with rfl | rfl <;> rfl
  · rcases (show l = 0 ∨ l = 1 by omega) with rfl | rfl
    · show cutAt _ 13 0 (fun _ => x0)
      exact ⟨(hAt_ne (hAt_off (hAt_ne (hAt_off (hAt_ne (hAt_ne (hAt_off (hAt_ne (hAt_ne (hAt_off (hAt_ne (hAt_ne (hAt_off (hAt_ne (hAt_ne (hAt_off (hAt_ne (hAt_ne (hAt_off (hAt_ne (hAt_ne (hAt_off (hAt_ne (hAt_ne q3a (by decide)) (by decide)) q4o (by decide)) (by decide)) (by decide)) q5o (by decide)) (by decide)) (by decide)) q6o (by decide)) (by decide)) (by decide)) q7o (by decide)) (by decide)) (by decide)) q8o (by decide)) (by decide)) (by decide)) q9o (by decide)) (by decide)) (by decide)) q10o (by decide)) (by decide)) q11o (by decide)) (by decide)), ⟨_, (hAt_ne (hAt_off (hAt_ne (hAt_off (hAt_ne (hAt_ne (hAt_off (hAt_ne (hAt_ne (hAt_off (hAt_ne (hAt_ne (hAt_off (hAt_ne (hAt_ne (hAt_off (hAt_ne (hAt_ne (hAt_off (hAt_ne (hAt_ne (hAt_off (hAt_ne (hAt_ne q3r (by decide)) (by decide)) q4o (by decide)) (by decide)) (by decide)) q5o (by decide)) (by decide)) (by decide)) q6o (by decide)) (by decide)) (by decide)) q7o (by decide)) (by decide)) (by decide)) q8o (by decide)) (by decide)) (by decide)) q9o (by decide)) (by decide)) (by decide)) q10o (by decide)) (by decide)) q11o (by decide)) (by decide)), q3g⟩, fun e he => ⟨(hAt_ne (hAt_off (hAt_ne (hAt_off (hAt_ne (hAt_ne (hAt_off (hAt_ne (hAt_ne (hAt_off (hAt_ne (hAt_ne (hAt_off (hAt_ne (hAt_ne (hAt_off (hAt_ne (hAt_ne (hAt_off (hAt_ne (hAt_ne (hAt_off (hAt_ne (hAt_ne (q3e e he) (by omega)) (by omega)) q4o (by omega)) (by omega)) (by omega)) q5o (by omega)) (by omega)) (by omega)) q6o (by omega)) (by omega)) (by omega)) q7o (by omega)) (by omega)) (by omega)) q8o (by omega)) (by omega)) (by omega)) q9o (by omega)) (by omega)) (by omega)) q10o (by omega)) (by omega)) q11o (by omega)) (by omega)), x0_ok⟩, by decide⟩
    · show cutAt _ 23 0 (fun _ => x0)
      exact ⟨(hAt_ne (hAt_off (hAt_ne (hAt_off (hAt_ne (hAt_ne (hAt_off (hAt_ne (hAt_ne (hAt_off (hAt_ne (hAt_ne (hAt_off (hAt_ne (hAt_ne (hAt_off (hAt_ne (hAt_ne q5a (by decide)) (by decide)) q6o (by decide)) (by decide)) (by decide)) q7o (by decide)) (by decide)) (by decide)) q8o (by decide)) (by decide)) (by decide)) q9o (by decide)) (by decide)) (by decide)) q10o (by decide)) (by decide)) q11o (by decide)) (by decide)), ⟨_, (hAt_ne (hAt_off (hAt_ne (hAt_off (hAt_ne (hAt_ne (hAt_off (hAt_ne (hAt_ne (hAt_off (hAt_ne (hAt_ne (hAt_off (hAt_ne (hAt_ne (hAt_off (hAt_ne (hAt_ne q5r (by decide)) (by decide)) q6o (by decide)) (by decide)) (by decide)) q7o (by decide)) (by decide)) (by decide)) q8o (by decide)) (by decide)) (by decide)) q9o (by decide)) (by decide)) (by decide)) q10o (by decide)) (by decide)) q11o (by decide)) (by decide)), q5g⟩, fun e he => ⟨(hAt_ne (hAt_off (hAt_ne (hAt_off (hAt_ne (hAt_ne (hAt_off (hAt_ne (hAt_ne (hAt_off (hAt_ne (hAt_ne (hAt_off (hAt_ne (hAt_ne (hAt_off (hAt_ne (hAt_ne (q5e e he) (by omega)) (by omega)) q6o (by omega)) (by omega)) (by omega)) q7o (by omega)) (by omega)) (by omega)) q8o (by omega)) (by omega)) (by omega)) q9o (by omega)) (by omega)) (by omega)) q10o (by omega)) (by omega)) q11o (by omega)) (by omega)), x0_ok⟩, by decide⟩
  · exact q11g
  · rcases (show j = 0 ∨ j = 1 ∨ j = 2 by omega) with rfl | rfl | rfl <;> rfl
  · rcases (show s = 0 ∨ s = 1 ∨ s = 2 ∨ s = 3 by omega) with rfl | rfl | rfl | rfl <;> rfl
  · rcases (show s = 0 ∨ s = 1 ∨ s = 2 ∨ s = 3 by omega) with rfl | rfl | rfl | rfl
    · exact ⟨(hAt_ne (hAt_off (hAt_ne (hAt_off (hAt_ne (hAt_ne (hAt_off (hAt_ne (hAt_ne (hAt_off (hAt_ne (hAt_ne q7a (by decide)) (by decide)) q8o (by decide)) (by decide)) (by decide)) q9o (by decide)) (by decide)) (by decide)) q10o (by decide)) (by decide)) q11o (by decide)) (by decide)), ⟨_, (hAt_ne (hAt_off (hAt_ne (hAt_off (hAt_ne (hAt_ne (hAt_off (hAt_ne (hAt_ne (hAt_off (hAt_ne (hAt_ne q7r (by decide)) (by decide)) q8o (by decide)) (by decide)) (by decide)) q9o (by decide)) (by decide)) (by decide)) q10o (by decide)) (by decide)) q11o (by decide)) (by decide)), fun j hj => rfl⟩, by decide, by decide⟩
    · exact ⟨(hAt_ne (hAt_off (hAt_ne (hAt_off (hAt_ne (hAt_ne (hAt_off (hAt_ne (hAt_ne q8a (by decide)) (by decide)) q9o (by decide)) (by decide)) (by decide)) q10o (by decide)) (by decide)) q11o (by decide)) (by decide)), ⟨_, (hAt_ne (hAt_off (hAt_ne (hAt_off (hAt_ne (hAt_ne (hAt_off (hAt_ne (hAt_ne q8r (by decide)) (by decide)) q9o (by decide)) (by decide)) (by decide)) q10o (by decide)) (by decide)) q11o (by decide)) (by decide)), fun j hj => rfl⟩, by decide, by decide⟩
    · exact ⟨(hAt_ne (hAt_off (hAt_ne (hAt_off (hAt_ne (hAt_ne q9a (by decide)) (by decide)) q10o (by decide)) (by decide)) q11o (by decide)) (by decide)), ⟨_, (hAt_ne (hAt_off (hAt_ne (hAt_off (hAt_ne (hAt_ne q9r (by decide)) (by decide)) q10o (by decide)) (by decide)) q11o (by decide)) (by decide)), fun j hj => rfl⟩, by decide, by decide⟩
    · exact ⟨(hAt_ne (hAt_off (hAt_ne q10a (by decide)) q11o (by decide)) (by decide)), ⟨_, (hAt_ne (hAt_off (hAt_ne q10r (by decide)) q11o (by decide)) (by decide)), fun j hj => rfl⟩, by decide, by decide⟩
  · rcases (show l = 0 ∨ l = 1 by omega) with rfl | rfl <;> rfl
  · rcases (show l = 0 ∨ l = 1 by omega) with rfl | rfl
    · exact ⟨0, fun _ _ => 0, (hAt_ne (hAt_off (hAt_ne (hAt_off (hAt_ne (hAt_ne (hAt_off (hAt_ne (hAt_ne (hAt_off (hAt_ne (hAt_ne (hAt_off (hAt_ne (hAt_ne (hAt_off (hAt_ne (hAt_ne (hAt_off (hAt_ne (hAt_ne q4a (by decide)) (by decide)) q5o (by decide)) (by decide)) (by decide)) q6o (by decide)) (by decide)) (by decide)) q7o (by decide)) (by decide)) (by decide)) q8o (by decide)) (by decide)) (by decide)) q9o (by decide)) (by decide)) (by decide)) q10o (by decide)) (by decide)) q11o (by decide)) (by decide)), (hAt_ne (hAt_off (hAt_ne (hAt_off (hAt_ne (hAt_ne (hAt_off (hAt_ne (hAt_ne (hAt_off (hAt_ne (hAt_ne (hAt_off (hAt_ne (hAt_ne (hAt_off (hAt_ne (hAt_ne (hAt_off (hAt_ne (hAt_ne (q4r 0 (by decide)) (by decide)) (by decide)) q5o (by decide)) (by decide)) (by decide)) q6o (by decide)) (by decide)) (by decide)) q7o (by decide)) (by decide)) (by decide)) q8o (by decide)) (by decide)) (by decide)) q9o (by decide)) (by decide)) (by decide)) q10o (by decide)) (by decide)) q11o (by decide)) (by decide)), (hAt_ne (hAt_off (hAt_ne (hAt_off (hAt_ne (hAt_ne (hAt_off (hAt_ne (hAt_ne (hAt_off (hAt_ne (hAt_ne (hAt_off (hAt_ne (hAt_ne (hAt_off (hAt_ne (hAt_ne (hAt_off (hAt_ne (hAt_ne (q4r 1 (by decide)) (by decide)) (by decide)) q5o (by decide)) (by decide)) (by decide)) q6o (by decide)) (by decide)) (by decide)) q7o (by decide)) (by decide)) (by decide)) q8o (by decide)) (by decide)) (by decide)) q9o (by decide)) (by decide)) (by decide)) q10o (by decide)) (by decide)) q11o (by decide)) (by decide)), (hAt_ne (hAt_off (hAt_ne (hAt_off (hAt_ne (hAt_ne (hAt_off (hAt_ne (hAt_ne (hAt_off (hAt_ne (hAt_ne (hAt_off (hAt_ne (hAt_ne (hAt_off (hAt_ne (hAt_ne (hAt_off (hAt_ne (hAt_ne (q4r 2 (by decide)) (by decide)) (by decide)) q5o (by decide)) (by decide)) (by decide)) q6o (by decide)) (by decide)) (by decide)) q7o (by decide)) (by decide)) (by decide)) q8o (by decide)) (by decide)) (by decide)) q9o (by decide)) (by decide)) (by decide)) q10o (by decide)) (by decide)) q11o (by decide)) (by decide)), (hAt_ne (hAt_off (hAt_ne (hAt_off (hAt_ne (hAt_ne (hAt_off (hAt_ne (hAt_ne (hAt_off (hAt_ne (hAt_ne (hAt_off (hAt_ne (hAt_ne (hAt_off (hAt_ne (hAt_ne (hAt_off (hAt_ne (hAt_ne (q4r 3 (by decide)) (by decide)) (by decide)) q5o (by decide)) (by decide)) (by decide)) q6o (by decide)) (by decide)) (by decide)) q7o (by decide)) (by decide)) (by decide)) q8o (by decide)) (by decide)) (by decide)) q9o (by decide)) (by decide)) (by decide)) q10o (by decide)) (by decide)) q11o (by decide)) (by decide)), by decide, by decide⟩
    · exact ⟨0, fun _ _ => 0, (hAt_ne (hAt_off (hAt_ne (hAt_off (hAt_ne (hAt_ne (hAt_off (hAt_ne (hAt_ne (hAt_off (hAt_ne (hAt_ne (hAt_off (hAt_ne (hAt_ne q6a (by decide)) (by decide)) q7o (by decide)) (by decide)) (by decide)) q8o (by decide)) (by decide)) (by decide)) q9o (by decide)) (by decide)) (by decide)) q10o (by decide)) (by decide)) q11o (by decide)) (by decide)), (hAt_ne (hAt_off (hAt_ne (hAt_off (hAt_ne (hAt_ne (hAt_off (hAt_ne (hAt_ne (hAt_off (hAt_ne (hAt_ne (hAt_off (hAt_ne (hAt_ne (q6r 0 (by decide)) (by decide)) (by decide)) q7o (by decide)) (by decide)) (by decide)) q8o (by decide)) (by decide)) (by decide)) q9o (by decide)) (by decide)) (by decide)) q10o (by decide)) (by decide)) q11o (by decide)) (by decide)), (hAt_ne (hAt_off (hAt_ne (hAt_off (hAt_ne (hAt_ne (hAt_off (hAt_ne (hAt_ne (hAt_off (hAt_ne (hAt_ne (hAt_off (hAt_ne (hAt_ne (q6r 1 (by decide)) (by decide)) (by decide)) q7o (by decide)) (by decide)) (by decide)) q8o (by decide)) (by decide)) (by decide)) q9o (by decide)) (by decide)) (by decide)) q10o (by decide)) (by decide)) q11o (by decide)) (by decide)), (hAt_ne (hAt_off (hAt_ne (hAt_off (hAt_ne (hAt_ne (hAt_off (hAt_ne (hAt_ne (hAt_off (hAt_ne (hAt_ne (hAt_off (hAt_ne (hAt_ne (q6r 2 (by decide)) (by decide)) (by decide)) q7o (by decide)) (by decide)) (by decide)) q8o (by decide)) (by decide)) (by decide)) q9o (by decide)) (by decide)) (by decide)) q10o (by decide)) (by decide)) q11o (by decide)) (by decide)), (hAt_ne (hAt_off (hAt_ne (hAt_off (hAt_ne (hAt_ne (hAt_off (hAt_ne (hAt_ne (hAt_off (hAt_ne (hAt_ne (hAt_off (hAt_ne (hAt_ne (q6r 3 (by decide)) (by decide)) (by decide)) q7o (by decide)) (by decide)) (by decide)) q8o (by decide)) (by decide)) (by decide)) q9o (by decide)) (by decide)) (by decide)) q10o (by decide)) (by decide)) q11o (by decide)) (by decide)), by decide, by decide⟩
theorem g_model (h51 : hAt h 51 (oB 6 [.null, .null, .null, .null, .null, .null, .null, .null, .null, .null, .null, .null, .null, .null, .int 0, .null, .null, .null, .null, .null, .int 0])) : Gt X mX7_init 1 [.ref 51] 52 h 19 477 (fun h' => moAt h' D0 ∧ offB h h' 51 71) := by
  refine Gt_of (ini := True) jmX7_init rfl (fun _ => rfl) [some (.ref 51), none] (Nat.le_of_ble_eq_true rfl) rfl ?_
  show G X True RX7 cX7_init 2 1 (gRet X _ _ _) _ _ _ 0 _ _ _ _ _
  refine G_aload_0 dX7_init_0 ?_
  refine G_obj dX7_init_1 gob_X7 (by decide) (Nat.le_of_ble_eq_true rfl) ?_
  refine G_aload_0 dX7_init_4 ?_
  refine G_iconst (v := nI 2) dX7_init_5 (by decide) ?_
  refine G_newa (i := 52) dX7_init_6 (by omega) (by decide) (by omega) (by omega) (by omega) ?_
  refine G_putF trivial dX7_init_8 gff_X7_7 (hAt_ne h51 (by decide)) (by decide) (Nat.le_of_ble_eq_true rfl) rfl rfl ?_
  refine G_aload_0 dX7_init_11 ?_
  refine G_bipush (v := nI 16) dX7_init_12 (by decide) ?_
  refine G_newa (i := 53) dX7_init_14 (by omega) (by decide) (by omega) (by omega) (by omega) ?_
  refine G_putF trivial dX7_init_16 gff_X7_13 (hAt_ne (hAt_s (show _ < 71 by decide)) (by decide)) (by decide) (Nat.le_of_ble_eq_true rfl) rfl rfl ?_
  refine G_aload_0 dX7_init_19 ?_
  refine G_bipush (v := nI 16) dX7_init_20 (by decide) ?_
  refine G_newa (i := 54) dX7_init_22 (by omega) (by decide) (by omega) (by omega) (by omega) ?_
  refine G_putF trivial dX7_init_24 gff_X7_16 (hAt_ne (hAt_s (show _ < 71 by decide)) (by decide)) (by decide) (Nat.le_of_ble_eq_true rfl) rfl rfl ?_
  refine G_aload_0 dX7_init_27 ?_
  refine G_bipush (v := nI 16) dX7_init_28 (by decide) ?_
  refine G_newa (i := 55) dX7_init_30 (by omega) (by decide) (by omega) (by omega) (by omega) ?_
  refine G_putF trivial dX7_init_32 gff_X7_19 (hAt_ne (hAt_s (show _ < 71 by decide)) (by decide)) (by decide) (Nat.le_of_ble_eq_true rfl) rfl rfl ?_
  refine G_aload_0 dX7_init_35 ?_
  refine G_bipush (v := nI 16) dX7_init_36 (by decide) ?_
  refine G_newa (i := 56) dX7_init_38 (by omega) (by decide) (by omega) (by omega) (by omega) ?_
  refine G_putF trivial dX7_init_40 gff_X7_22 (hAt_ne (hAt_s (show _ < 71 by decide)) (by decide)) (by decide) (Nat.le_of_ble_eq_true rfl) rfl rfl ?_
  refine G_aload_0 dX7_init_43 ?_
  refine G_bipush (v := nI 16) dX7_init_44 (by decide) ?_
  refine G_newa (i := 57) dX7_init_46 (by omega) (by decide) (by omega) (by omega) (by omega) ?_
  refine G_putF trivial dX7_init_48 gff_X7_25 (hAt_ne (hAt_s (show _ < 71 by decide)) (by decide)) (by decide) (Nat.le_of_ble_eq_true rfl) rfl rfl ?_
  refine G_aload_0 dX7_init_51 ?_
  refine G_iconst (v := nI 3) dX7_init_52 (by decide) ?_
  refine G_newa (i := 58) dX7_init_53 (by omega) (by decide) (by omega) (by omega) (by omega) ?_
  refine G_putF trivial dX7_init_55 gff_X7_28 (hAt_ne (hAt_s (show _ < 71 by decide)) (by decide)) (by decide) (Nat.le_of_ble_eq_true rfl) rfl rfl ?_
  refine G_aload_0 dX7_init_58 ?_
  refine G_bipush (v := nI 6) dX7_init_59 (by decide) ?_
  refine G_newa (i := 59) dX7_init_61 (by omega) (by decide) (by omega) (by omega) (by omega) ?_
  refine G_putF trivial dX7_init_63 gff_X7_31 (hAt_ne (hAt_s (show _ < 71 by decide)) (by decide)) (by decide) (Nat.le_of_ble_eq_true rfl) rfl rfl ?_
  refine G_aload_0 dX7_init_66 ?_
  refine G_iconst (v := nI 2) dX7_init_67 (by decide) ?_
  refine G_newa (i := 60) dX7_init_68 (by omega) (by decide) (by omega) (by omega) (by omega) ?_
  refine G_putF trivial dX7_init_70 gff_X7_34 (hAt_ne (hAt_s (show _ < 71 by decide)) (by decide)) (by decide) (Nat.le_of_ble_eq_true rfl) rfl rfl ?_
  refine G_aload_0 dX7_init_73 ?_
  refine G_bipush (v := nI 16) dX7_init_74 (by decide) ?_
  refine G_newa (i := 61) dX7_init_76 (by omega) (by decide) (by omega) (by omega) (by omega) ?_
  refine G_putF trivial dX7_init_78 gff_X7_37 (hAt_ne (hAt_s (show _ < 71 by decide)) (by decide)) (by decide) (Nat.le_of_ble_eq_true rfl) rfl rfl ?_
  refine G_aload_0 dX7_init_81 ?_
  refine G_bipush (v := nI 16) dX7_init_82 (by decide) ?_
  refine G_newa (i := 62) dX7_init_84 (by omega) (by decide) (by omega) (by omega) (by omega) ?_
  refine G_putF trivial dX7_init_86 gff_X7_40 (hAt_ne (hAt_s (show _ < 71 by decide)) (by decide)) (by decide) (Nat.le_of_ble_eq_true rfl) rfl rfl ?_
  refine G_aload_0 dX7_init_89 ?_
  refine G_bipush (v := nI 16) dX7_init_90 (by decide) ?_
  refine G_newa (i := 63) dX7_init_92 (by omega) (by decide) (by omega) (by omega) (by omega) ?_
  refine G_putF trivial dX7_init_94 gff_X7_43 (hAt_ne (hAt_s (show _ < 71 by decide)) (by decide)) (by decide) (Nat.le_of_ble_eq_true rfl) rfl rfl ?_
  refine G_aload_0 dX7_init_97 ?_
  refine G_bipush (v := nI 16) dX7_init_98 (by decide) ?_
  refine G_newa (i := 64) dX7_init_100 (by omega) (by decide) (by omega) (by omega) (by omega) ?_
  refine G_putF trivial dX7_init_102 gff_X7_46 (hAt_ne (hAt_s (show _ < 71 by decide)) (by decide)) (by decide) (Nat.le_of_ble_eq_true rfl) rfl rfl ?_
  refine G_aload_0 dX7_init_105 ?_
  refine G_bipush (v := nI 8) dX7_init_106 (by decide) ?_
  refine G_newa (i := 65) dX7_init_108 (by omega) (by decide) (by omega) (by omega) (by omega) ?_
  refine G_putF trivial dX7_init_110 gff_X7_49 (hAt_ne (hAt_s (show _ < 71 by decide)) (by decide)) (by decide) (Nat.le_of_ble_eq_true rfl) rfl rfl ?_
  refine G_aload_0 dX7_init_113 ?_
  refine G_iconst (v := nI 4) dX7_init_114 (by decide) ?_
  refine G_newz (i := 66) dX7_init_115 (by omega) (by decide) (by omega) (by omega) (by omega) ?_
  refine G_putF trivial dX7_init_117 gff_X7_52 (hAt_ne (hAt_s (show _ < 71 by decide)) (by decide)) (by decide) (Nat.le_of_ble_eq_true rfl) rfl rfl ?_
  refine G_aload_0 dX7_init_120 ?_
  refine G_iconst (v := nI 4) dX7_init_121 (by decide) ?_
  refine G_newa (i := 67) dX7_init_122 (by omega) (by decide) (by omega) (by omega) (by omega) ?_
  refine G_putF trivial dX7_init_124 gff_X7_56 (hAt_ne (hAt_s (show _ < 71 by decide)) (by decide)) (by decide) (Nat.le_of_ble_eq_true rfl) rfl rfl ?_
  refine G_aload_0 dX7_init_127 ?_
  refine G_iconst (v := nI 4) dX7_init_128 (by decide) ?_
  refine G_newa (i := 68) dX7_init_129 (by omega) (by decide) (by omega) (by omega) (by omega) ?_
  refine G_putF trivial dX7_init_131 gff_X7_59 (hAt_ne (hAt_s (show _ < 71 by decide)) (by decide)) (by decide) (Nat.le_of_ble_eq_true rfl) rfl rfl ?_
  refine G_aload_0 dX7_init_134 ?_
  refine G_sipush (v := nI 240) dX7_init_135 (by decide) ?_
  refine G_newa (i := 69) dX7_init_138 (by omega) (by decide) (by omega) (by omega) (by omega) ?_
  refine G_putF trivial dX7_init_140 gff_X7_62 (hAt_ne (hAt_s (show _ < 71 by decide)) (by decide)) (by decide) (Nat.le_of_ble_eq_true rfl) rfl rfl ?_
  refine G_aload_0 dX7_init_143 ?_
  refine G_bipush (v := nI 60) dX7_init_144 (by decide) ?_
  refine G_newa (i := 70) dX7_init_146 (by omega) (by decide) (by omega) (by omega) (by omega) ?_
  refine G_putF trivial dX7_init_148 gff_X7_65 (hAt_ne (hAt_s (show _ < 71 by decide)) (by decide)) (by decide) (Nat.le_of_ble_eq_true rfl) rfl rfl ?_
  refine G_aload_0 dX7_init_151 ?_
  refine G_get dX7_init_152 fl_X7_28 (hAt_s (show _ < 71 by decide)) (by decide) rfl ?_
  refine G_iconst (v := nI 1) dX7_init_155 (by decide) ?_
  refine G_bipush (v := nI 10) dX7_init_156 (by decide) ?_
  refine G_iast dX7_init_158 (hAt_ne (hAt_ne (hAt_ne (hAt_ne (hAt_ne (hAt_ne (hAt_ne (hAt_ne (hAt_ne (hAt_ne (hAt_ne (hAt_ne (hAt_ne (hAt_ne (hAt_ne (hAt_ne (hAt_ne (hAt_ne (hAt_ne (hAt_ne (hAt_ne (hAt_ne (hAt_ne (hAt_ne (hAt_ne (hAt_s (show _ < 71 by decide)) (by decide)) (by decide)) (by decide)) (by decide)) (by decide)) (by decide)) (by decide)) (by decide)) (by decide)) (by decide)) (by decide)) (by decide)) (by decide)) (by decide)) (by decide)) (by decide)) (by decide)) (by decide)) (by decide)) (by decide)) (by decide)) (by decide)) (by decide)) (by decide)) (by decide)) (by decide) rfl (by omega) (by omega) ?_
  refine G_iconst (v := nI 0) dX7_init_159 (by decide) ?_
  refine G_istore_1 dX7_init_160 (Nat.le_of_ble_eq_true rfl) rfl ?_
  refine G_iload_1 dX7_init_161 ?_
  refine G_bipush (v := nI 6) dX7_init_162 (by decide) ?_
  refine G_icmp_geN (tgt := 181) dX7_init_164 (by decide) (by omega) (by omega) (fun c => absurd c (by omega)) (fun _ => ?_)
  refine G_aload_0 dX7_init_167 ?_
  refine G_get dX7_init_168 fl_X7_31 (hAt_ne (hAt_s (show _ < 71 by decide)) (by decide)) (by decide) rfl ?_
  refine G_iload_1 dX7_init_171 ?_
  refine G_ldc dX7_init_172 kc_X7_68 ?_
  refine G_iast dX7_init_174 (hAt_ne (hAt_ne (hAt_ne (hAt_ne (hAt_ne (hAt_ne (hAt_ne (hAt_ne (hAt_ne (hAt_ne (hAt_ne (hAt_ne (hAt_ne (hAt_ne (hAt_ne (hAt_ne (hAt_ne (hAt_ne (hAt_ne (hAt_ne (hAt_ne (hAt_ne (hAt_ne (hAt_ne (hAt_s (show _ < 71 by decide)) (by decide)) (by decide)) (by decide)) (by decide)) (by decide)) (by decide)) (by decide)) (by decide)) (by decide)) (by decide)) (by decide)) (by decide)) (by decide)) (by decide)) (by decide)) (by decide)) (by decide)) (by decide)) (by decide)) (by decide)) (by decide)) (by decide)) (by decide)) (by decide)) (by decide) rfl (by omega) (by omega) ?_
  refine G_inc_1 dX7_init_175 (Nat.le_of_ble_eq_true rfl) rfl ?_
  refine G_goto (tgt := 161) dX7_init_178 (by decide) ?_
  refine G_iload_1 dX7_init_161 ?_
  refine G_bipush (v := nI 6) dX7_init_162 (by decide) ?_
  refine G_icmp_geN (tgt := 181) dX7_init_164 (by decide) (by omega) (by omega) (fun c => absurd c (by omega)) (fun _ => ?_)
  refine G_aload_0 dX7_init_167 ?_
  refine G_get dX7_init_168 fl_X7_31 (hAt_ne (hAt_ne (hAt_s (show _ < 71 by decide)) (by decide)) (by decide)) (by decide) rfl ?_
  refine G_iload_1 dX7_init_171 ?_
  refine G_ldc dX7_init_172 kc_X7_68 ?_
  refine G_iast dX7_init_174 (hAt_s (show _ < 71 by decide)) (by decide) rfl (by omega) (by omega) ?_
  refine G_inc_1 dX7_init_175 (Nat.le_of_ble_eq_true rfl) rfl ?_
  refine G_goto (tgt := 161) dX7_init_178 (by decide) ?_
  refine G_iload_1 dX7_init_161 ?_
  refine G_bipush (v := nI 6) dX7_init_162 (by decide) ?_
  refine G_icmp_geN (tgt := 181) dX7_init_164 (by decide) (by omega) (by omega) (fun c => absurd c (by omega)) (fun _ => ?_)
  refine G_aload_0 dX7_init_167 ?_
  refine G_get dX7_init_168 fl_X7_31 (hAt_ne (hAt_ne (hAt_ne (hAt_s (show _ < 71 by decide)) (by decide)) (by decide)) (by decide)) (by decide) rfl ?_
  refine G_iload_1 dX7_init_171 ?_
  refine G_ldc dX7_init_172 kc_X7_68 ?_
  refine G_iast dX7_init_174 (hAt_s (show _ < 71 by decide)) (by decide) rfl (by omega) (by omega) ?_
  refine G_inc_1 dX7_init_175 (Nat.le_of_ble_eq_true rfl) rfl ?_
  refine G_goto (tgt := 161) dX7_init_178 (by decide) ?_
  refine G_iload_1 dX7_init_161 ?_
  refine G_bipush (v := nI 6) dX7_init_162 (by decide) ?_
  refine G_icmp_geN (tgt := 181) dX7_init_164 (by decide) (by omega) (by omega) (fun c => absurd c (by omega)) (fun _ => ?_)
  refine G_aload_0 dX7_init_167 ?_
  refine G_get dX7_init_168 fl_X7_31 (hAt_ne (hAt_ne (hAt_ne (hAt_ne (hAt_s (show _ < 71 by decide)) (by decide)) (by decide)) (by decide)) (by decide)) (by decide) rfl ?_
  refine G_iload_1 dX7_init_171 ?_
  refine G_ldc dX7_init_172 kc_X7_68 ?_
  refine G_iast dX7_init_174 (hAt_s (show _ < 71 by decide)) (by decide) rfl (by omega) (by omega) ?_
  refine G_inc_1 dX7_init_175 (Nat.le_of_ble_eq_true rfl) rfl ?_
  refine G_goto (tgt := 161) dX7_init_178 (by decide) ?_
  refine G_iload_1 dX7_init_161 ?_
  refine G_bipush (v := nI 6) dX7_init_162 (by decide) ?_
  refine G_icmp_geN (tgt := 181) dX7_init_164 (by decide) (by omega) (by omega) (fun c => absurd c (by omega)) (fun _ => ?_)
  refine G_aload_0 dX7_init_167 ?_
  refine G_get dX7_init_168 fl_X7_31 (hAt_ne (hAt_ne (hAt_ne (hAt_ne (hAt_ne (hAt_s (show _ < 71 by decide)) (by decide)) (by decide)) (by decide)) (by decide)) (by decide)) (by decide) rfl ?_
  refine G_iload_1 dX7_init_171 ?_
  refine G_ldc dX7_init_172 kc_X7_68 ?_
  refine G_iast dX7_init_174 (hAt_s (show _ < 71 by decide)) (by decide) rfl (by omega) (by omega) ?_
  refine G_inc_1 dX7_init_175 (Nat.le_of_ble_eq_true rfl) rfl ?_
  refine G_goto (tgt := 161) dX7_init_178 (by decide) ?_
  refine G_iload_1 dX7_init_161 ?_
  refine G_bipush (v := nI 6) dX7_init_162 (by decide) ?_
  refine G_icmp_geN (tgt := 181) dX7_init_164 (by decide) (by omega) (by omega) (fun c => absurd c (by omega)) (fun _ => ?_)
  refine G_aload_0 dX7_init_167 ?_
  refine G_get dX7_init_168 fl_X7_31 (hAt_ne (hAt_ne (hAt_ne (hAt_ne (hAt_ne (hAt_ne (hAt_s (show _ < 71 by decide)) (by decide)) (by decide)) (by decide)) (by decide)) (by decide)) (by decide)) (by decide) rfl ?_
  refine G_iload_1 dX7_init_171 ?_
  refine G_ldc dX7_init_172 kc_X7_68 ?_
  refine G_iast dX7_init_174 (hAt_s (show _ < 71 by decide)) (by decide) rfl (by omega) (by omega) ?_
  refine G_inc_1 dX7_init_175 (Nat.le_of_ble_eq_true rfl) rfl ?_
  refine G_goto (tgt := 161) dX7_init_178 (by decide) ?_
  refine G_iload_1 dX7_init_161 ?_
  refine G_bipush (v := nI 6) dX7_init_162 (by decide) ?_
  refine G_icmp_geN (tgt := 181) dX7_init_164 (by decide) (by omega) (by omega) (fun _ => ?_) (fun c => absurd c (by omega))
  refine G_vret dX7_init_181 (by omega) (by omega) ⟨⟨0, fun _ _ => 0, (hAt_ne (hAt_ne (hAt_ne (hAt_ne (hAt_ne (hAt_ne (hAt_ne (hAt_s (show _ < 71 by decide)) (by decide)) (by decide)) (by decide)) (by decide)) (by decide)) (by decide)) (by decide)), ⟨_, (hAt_ne (hAt_ne (hAt_ne (hAt_ne (hAt_ne (hAt_ne (hAt_ne (hAt_ne (hAt_ne (hAt_ne (hAt_ne (hAt_ne (hAt_ne (hAt_ne (hAt_ne (hAt_ne (hAt_ne (hAt_ne (hAt_ne (hAt_ne (hAt_ne (hAt_ne (hAt_ne (hAt_ne (hAt_ne (hAt_ne (hAt_ne (hAt_ne (hAt_ne (hAt_ne (hAt_ne (hAt_ne (hAt_ne (hAt_ne (hAt_ne (hAt_ne (hAt_ne (hAt_ne (hAt_ne (hAt_ne (hAt_ne (hAt_ne (hAt_ne (hAt_ne (hAt_s (show _ < 71 by decide)) (by decide)) (by decide)) (by decide)) (by decide)) (by decide)) (by decide)) (by decide)) (by decide)) (by decide)) (by decide)) (by decide)) (by decide)) (by decide)) (by decide)) (by decide)) (by decide)) (by decide)) (by decide)) (by decide)) (by decide)) (by decide)) (by decide)) (by decide)) (by decide)) (by decide)) (by decide)) (by decide)) (by decide)) (by decide)) (by decide)) (by decide)) (by decide)) (by decide)) (by decide)) (by decide)) (by decide)) (by decide)) (by decide)) (by decide)) (by decide)) (by decide)) (by decide)) (by decide)) (by decide)), fun l hl => rfl⟩, ⟨(hAt_ne (hAt_ne (hAt_ne (hAt_ne (hAt_ne (hAt_ne (hAt_ne (hAt_ne (hAt_ne (hAt_ne (hAt_ne (hAt_ne (hAt_ne (hAt_ne (hAt_ne (hAt_ne (hAt_ne (hAt_ne (hAt_ne (hAt_ne (hAt_ne (hAt_ne (hAt_ne (hAt_ne (hAt_ne (hAt_ne (hAt_ne (hAt_ne (hAt_ne (hAt_ne (hAt_ne (hAt_ne (hAt_ne (hAt_ne (hAt_ne (hAt_ne (hAt_ne (hAt_ne (hAt_ne (hAt_ne (hAt_ne (hAt_ne (hAt_s (show _ < 71 by decide)) (by decide)) (by decide)) (by decide)) (by decide)) (by decide)) (by decide)) (by decide)) (by decide)) (by decide)) (by decide)) (by decide)) (by decide)) (by decide)) (by decide)) (by decide)) (by decide)) (by decide)) (by decide)) (by decide)) (by decide)) (by decide)) (by decide)) (by decide)) (by decide)) (by decide)) (by decide)) (by decide)) (by decide)) (by decide)) (by decide)) (by decide)) (by decide)) (by decide)) (by decide)) (by decide)) (by decide)) (by decide)) (by decide)) (by decide)) (by decide)) (by decide)) (by decide)), (hAt_ne (hAt_ne (hAt_ne (hAt_ne (hAt_ne (hAt_ne (hAt_ne (hAt_ne (hAt_ne (hAt_ne (hAt_ne (hAt_ne (hAt_ne (hAt_ne (hAt_ne (hAt_ne (hAt_ne (hAt_ne (hAt_ne (hAt_ne (hAt_ne (hAt_ne (hAt_ne (hAt_ne (hAt_ne (hAt_ne (hAt_ne (hAt_ne (hAt_ne (hAt_ne (hAt_ne (hAt_ne (hAt_ne (hAt_ne (hAt_ne (hAt_ne (hAt_ne (hAt_ne (hAt_ne (hAt_ne (hAt_s (show _ < 71 by decide)) (by decide)) (by decide)) (by decide)) (by decide)) (by decide)) (by decide)) (by decide)) (by decide)) (by decide)) (by decide)) (by decide)) (by decide)) (by decide)) (by decide)) (by decide)) (by decide)) (by decide)) (by decide)) (by decide)) (by decide)) (by decide)) (by decide)) (by decide)) (by decide)) (by decide)) (by decide)) (by decide)) (by decide)) (by decide)) (by decide)) (by decide)) (by decide)) (by decide)) (by decide)) (by decide)) (by decide)) (by decide)) (by decide)) (by decide)) (by decide)), (hAt_ne (hAt_ne (hAt_ne (hAt_ne (hAt_ne (hAt_ne (hAt_ne (hAt_ne (hAt_ne (hAt_ne (hAt_ne (hAt_ne (hAt_ne (hAt_ne (hAt_ne (hAt_ne (hAt_ne (hAt_ne (hAt_ne (hAt_ne (hAt_ne (hAt_ne (hAt_ne (hAt_ne (hAt_ne (hAt_ne (hAt_ne (hAt_ne (hAt_ne (hAt_ne (hAt_ne (hAt_ne (hAt_ne (hAt_ne (hAt_ne (hAt_ne (hAt_ne (hAt_ne (hAt_s (show _ < 71 by decide)) (by decide)) (by decide)) (by decide)) (by decide)) (by decide)) (by decide)) (by decide)) (by decide)) (by decide)) (by decide)) (by decide)) (by decide)) (by decide)) (by decide)) (by decide)) (by decide)) (by decide)) (by decide)) (by decide)) (by decide)) (by decide)) (by decide)) (by decide)) (by decide)) (by decide)) (by decide)) (by decide)) (by decide)) (by decide)) (by decide)) (by decide)) (by decide)) (by decide)) (by decide)) (by decide)) (by decide)) (by decide)) (by decide)), (hAt_ne (hAt_ne (hAt_ne (hAt_ne (hAt_ne (hAt_ne (hAt_ne (hAt_ne (hAt_ne (hAt_ne (hAt_ne (hAt_ne (hAt_ne (hAt_ne (hAt_ne (hAt_ne (hAt_ne (hAt_ne (hAt_ne (hAt_ne (hAt_ne (hAt_ne (hAt_ne (hAt_ne (hAt_ne (hAt_ne (hAt_ne (hAt_ne (hAt_ne (hAt_ne (hAt_ne (hAt_ne (hAt_ne (hAt_ne (hAt_ne (hAt_ne (hAt_s (show _ < 71 by decide)) (by decide)) (by decide)) (by decide)) (by decide)) (by decide)) (by decide)) (by decide)) (by decide)) (by decide)) (by decide)) (by decide)) (by decide)) (by decide)) (by decide)) (by decide)) (by decide)) (by decide)) (by decide)) (by decide)) (by decide)) (by decide)) (by decide)) (by decide)) (by decide)) (by decide)) (by decide)) (by decide)) (by decide)) (by decide)) (by decide)) (by decide)) (by decide)) (by decide)) (by decide)) (by decide)) (by decide)), (hAt_ne (hAt_ne (hAt_ne (hAt_ne (hAt_ne (hAt_ne (hAt_ne (hAt_ne (hAt_ne (hAt_ne (hAt_ne (hAt_ne (hAt_ne (hAt_ne (hAt_ne (hAt_ne (hAt_ne (hAt_ne (hAt_ne (hAt_ne (hAt_ne (hAt_ne (hAt_ne (hAt_ne (hAt_ne (hAt_ne (hAt_ne (hAt_ne (hAt_ne (hAt_ne (hAt_ne (hAt_ne (hAt_ne (hAt_ne (hAt_s (show _ < 71 by decide)) (by decide)) (by decide)) (by decide)) (by decide)) (by decide)) (by decide)) (by decide)) (by decide)) (by decide)) (by decide)) (by decide)) (by decide)) (by decide)) (by decide)) (by decide)) (by decide)) (by decide)) (by decide)) (by decide)) (by decide)) (by decide)) (by decide)) (by decide)) (by decide)) (by decide)) (by decide)) (by decide)) (by decide)) (by decide)) (by decide)) (by decide)) (by decide)) (by decide)) (by decide))⟩, fun l e k hl he hk => absurd he (Nat.not_lt_zero _), ⟨_, (hAt_ne (hAt_ne (hAt_ne (hAt_ne (hAt_ne (hAt_ne (hAt_s (show _ < 71 by decide)) (by decide)) (by decide)) (by decide)) (by decide)) (by decide)) (by decide)), fun j hj => ?_⟩, ⟨_, (hAt_s (show _ < 71 by decide)), fun j hj => ?_⟩, ⟨⟨_, (hAt_ne (hAt_ne (hAt_ne (hAt_ne (hAt_ne (hAt_ne (hAt_ne (hAt_ne (hAt_ne (hAt_ne (hAt_ne (hAt_ne (hAt_ne (hAt_ne (hAt_ne (hAt_ne (hAt_s (show _ < 71 by decide)) (by decide)) (by decide)) (by decide)) (by decide)) (by decide)) (by decide)) (by decide)) (by decide)) (by decide)) (by decide)) (by decide)) (by decide)) (by decide)) (by decide)) (by decide)) (by decide)), fun s hs => rfl⟩, ⟨_, (hAt_ne (hAt_ne (hAt_ne (hAt_ne (hAt_ne (hAt_ne (hAt_ne (hAt_ne (hAt_ne (hAt_ne (hAt_ne (hAt_ne (hAt_ne (hAt_ne (hAt_s (show _ < 71 by decide)) (by decide)) (by decide)) (by decide)) (by decide)) (by decide)) (by decide)) (by decide)) (by decide)) (by decide)) (by decide)) (by decide)) (by decide)) (by decide)) (by decide)), fun s hs => rfl⟩, ⟨_, (hAt_ne (hAt_ne (hAt_ne (hAt_ne (hAt_ne (hAt_ne (hAt_ne (hAt_ne (hAt_ne (hAt_ne (hAt_ne (hAt_ne (hAt_s (show _ < 71 by decide)) (by decide)) (by decide)) (by decide)) (by decide)) (by decide)) (by decide)) (by decide)) (by decide)) (by decide)) (by decide)) (by decide)) (by decide)), fun s hs => rfl⟩, ⟨_, (hAt_ne (hAt_ne (hAt_ne (hAt_ne (hAt_ne (hAt_ne (hAt_ne (hAt_ne (hAt_ne (hAt_ne (hAt_s (show _ < 71 by decide)) (by decide)) (by decide)) (by decide)) (by decide)) (by decide)) (by decide)) (by decide)) (by decide)) (by decide)) (by decide)), fun s j hs hj => rfl⟩⟩, ⟨⟨_, (hAt_ne (hAt_ne (hAt_ne (hAt_ne (hAt_ne (hAt_ne (hAt_ne (hAt_ne (hAt_ne (hAt_ne (hAt_ne (hAt_ne (hAt_ne (hAt_ne (hAt_ne (hAt_ne (hAt_ne (hAt_ne (hAt_ne (hAt_ne (hAt_ne (hAt_ne (hAt_ne (hAt_ne (hAt_ne (hAt_ne (hAt_ne (hAt_ne (hAt_s (show _ < 71 by decide)) (by decide)) (by decide)) (by decide)) (by decide)) (by decide)) (by decide)) (by decide)) (by decide)) (by decide)) (by decide)) (by decide)) (by decide)) (by decide)) (by decide)) (by decide)) (by decide)) (by decide)) (by decide)) (by decide)) (by decide)) (by decide)) (by decide)) (by decide)) (by decide)) (by decide)) (by decide)) (by decide)) (by decide))⟩, fun k hk => ?_, ⟨_, (hAt_ne (hAt_ne (hAt_ne (hAt_ne (hAt_ne (hAt_ne (hAt_ne (hAt_ne (hAt_ne (hAt_ne (hAt_ne (hAt_ne (hAt_ne (hAt_ne (hAt_ne (hAt_ne (hAt_ne (hAt_ne (hAt_s (show _ < 71 by decide)) (by decide)) (by decide)) (by decide)) (by decide)) (by decide)) (by decide)) (by decide)) (by decide)) (by decide)) (by decide)) (by decide)) (by decide)) (by decide)) (by decide)) (by decide)) (by decide)) (by decide)) (by decide))⟩, ⟨_, (hAt_ne (hAt_ne (hAt_ne (hAt_ne (hAt_ne (hAt_ne (hAt_ne (hAt_ne (hAt_s (show _ < 71 by decide)) (by decide)) (by decide)) (by decide)) (by decide)) (by decide)) (by decide)) (by decide)) (by decide))⟩⟩, dok_D0⟩, (((((((((((((((((((((((((((((((((((((((((((((offB.rf.hu (by decide) (by decide)).hu (by decide) (by decide)).hu (by decide) (by decide)).hu (by decide) (by decide)).hu (by decide) (by decide)).hu (by decide) (by decide)).hu (by decide) (by decide)).hu (by decide) (by decide)).hu (by decide) (by decide)).hu (by decide) (by decide)).hu (by decide) (by decide)).hu (by decide) (by decide)).hu (by decide) (by decide)).hu (by decide) (by decide)).hu (by decide) (by decide)).hu (by decide) (by decide)).hu (by decide) (by decide)).hu (by decide) (by decide)).hu (by decide) (by decide)).hu (by decide) (by decide)).hu (by decide) (by decide)).hu (by decide) (by decide)).hu (by decide) (by decide)).hu (by decide) (by decide)).hu (by decide) (by decide)).hu (by decide) (by decide)).hu (by decide) (by decide)).hu (by decide) (by decide)).hu (by decide) (by decide)).hu (by decide) (by decide)).hu (by decide) (by decide)).hu (by decide) (by decide)).hu (by decide) (by decide)).hu (by decide) (by decide)).hu (by decide) (by decide)).hu (by decide) (by decide)).hu (by decide) (by decide)).hu (by decide) (by decide)).hu (by decide) (by decide)).hu (by decide) (by decide)).hu (by decide) (by decide)).hu (by decide) (by decide)).hu (by decide) (by decide)).hu (by decide) (by decide)).hu (by decide) (by decide))⟩
  · rcases (show j = 0 ∨ j = 1 ∨ j = 2 by omega) with rfl | rfl | rfl <;> rfl
  · rcases (show j = 0 ∨ j = 1 ∨ j = 2 ∨ j = 3 ∨ j = 4 ∨ j = 5 by omega) with rfl | rfl | rfl | rfl | rfl | rfl <;> rfl
  · rcases (show k = 0 ∨ k = 1 ∨ k = 2 ∨ k = 3 by omega) with rfl | rfl | rfl | rfl
    · exact ⟨_, (hAt_ne (hAt_ne (hAt_ne (hAt_ne (hAt_ne (hAt_ne (hAt_ne (hAt_ne (hAt_ne (hAt_ne (hAt_ne (hAt_ne (hAt_ne (hAt_ne (hAt_ne (hAt_ne (hAt_ne (hAt_ne (hAt_ne (hAt_ne (hAt_ne (hAt_ne (hAt_ne (hAt_ne (hAt_ne (hAt_ne (hAt_s (show _ < 71 by decide)) (by decide)) (by decide)) (by decide)) (by decide)) (by decide)) (by decide)) (by decide)) (by decide)) (by decide)) (by decide)) (by decide)) (by decide)) (by decide)) (by decide)) (by decide)) (by decide)) (by decide)) (by decide)) (by decide)) (by decide)) (by decide)) (by decide)) (by decide)) (by decide)) (by decide)) (by decide))⟩
    · exact ⟨_, (hAt_ne (hAt_ne (hAt_ne (hAt_ne (hAt_ne (hAt_ne (hAt_ne (hAt_ne (hAt_ne (hAt_ne (hAt_ne (hAt_ne (hAt_ne (hAt_ne (hAt_ne (hAt_ne (hAt_ne (hAt_ne (hAt_ne (hAt_ne (hAt_ne (hAt_ne (hAt_ne (hAt_ne (hAt_s (show _ < 71 by decide)) (by decide)) (by decide)) (by decide)) (by decide)) (by decide)) (by decide)) (by decide)) (by decide)) (by decide)) (by decide)) (by decide)) (by decide)) (by decide)) (by decide)) (by decide)) (by decide)) (by decide)) (by decide)) (by decide)) (by decide)) (by decide)) (by decide)) (by decide)) (by decide))⟩
    · exact ⟨_, (hAt_ne (hAt_ne (hAt_ne (hAt_ne (hAt_ne (hAt_ne (hAt_ne (hAt_ne (hAt_ne (hAt_ne (hAt_ne (hAt_ne (hAt_ne (hAt_ne (hAt_ne (hAt_ne (hAt_ne (hAt_ne (hAt_ne (hAt_ne (hAt_ne (hAt_ne (hAt_s (show _ < 71 by decide)) (by decide)) (by decide)) (by decide)) (by decide)) (by decide)) (by decide)) (by decide)) (by decide)) (by decide)) (by decide)) (by decide)) (by decide)) (by decide)) (by decide)) (by decide)) (by decide)) (by decide)) (by decide)) (by decide)) (by decide)) (by decide)) (by decide))⟩
    · exact ⟨_, (hAt_ne (hAt_ne (hAt_ne (hAt_ne (hAt_ne (hAt_ne (hAt_ne (hAt_ne (hAt_ne (hAt_ne (hAt_ne (hAt_ne (hAt_ne (hAt_ne (hAt_ne (hAt_ne (hAt_ne (hAt_ne (hAt_ne (hAt_ne (hAt_s (show _ < 71 by decide)) (by decide)) (by decide)) (by decide)) (by decide)) (by decide)) (by decide)) (by decide)) (by decide)) (by decide)) (by decide)) (by decide)) (by decide)) (by decide)) (by decide)) (by decide)) (by decide)) (by decide)) (by decide)) (by decide)) (by decide))⟩
end
