section
variable {X : Cx} {h : HF} {D : DS} {tb : Int32} {F : Nat → Nat → Int32} {m : Nat → Nat} {V : Nat → Nat → Nat}
theorem l_mfreshI (p : mdAt h D tb F) {l e k f s : Nat} (hl : l < 2) (he : e < dn D l) (hf : f < 300000) {Q : Option Value → HF → Prop} (kk1 : ∀ i : Nat, (∀ i, i < e → ¬ shn (de D l i) (de D l e 0) f = true) → J X RX7 cX7_freshOf 9 3 (some .int) Q 108 [some (.ref 51), some (.int (nI l)), some (.int (nI e)), some (.int (nI (8 * l + e))), some (.int (nI s)), some (.int (nI k)), some (.int (nI f)), some (.int (nI 1)), some (.int (nI i))] [] h) (kk0 : ∀ i : Nat, ¬ (∀ i, i < e → ¬ shn (de D l i) (de D l e 0) f = true) → J X RX7 cX7_freshOf 9 3 (some .int) Q 108 [some (.ref 51), some (.int (nI l)), some (.int (nI e)), some (.int (nI (8 * l + e))), some (.int (nI s)), some (.int (nI k)), some (.int (nI f)), some (.int (nI 0)), some (.int (nI i))] [] h) : ∀ (c i : Nat), i + c = e → (∀ j, j < i → ¬ shn (de D l j) (de D l e 0) f = true) → J X RX7 cX7_freshOf 9 3 (some .int) Q 62 [some (.ref 51), some (.int (nI l)), some (.int (nI e)), some (.int (nI (8 * l + e))), some (.int (nI s)), some (.int (nI k)), some (.int (nI f)), some (.int (nI 1)), some (.int (nI i))] [] h := by
  obtain ⟨h0, -, ⟨a0, a1, a2, a3, a4⟩, hF, -⟩ := id p
  obtain ⟨hE, ok, h8⟩ := mdE p hl he
  have e0 := hF l e 0 hl he (by decide)
  intro c
  induction c with
  | zero =>
    intro i hi hn
    refine J_iload_8 dX7_freshOf_62 ?_
    refine J_iload_2 dX7_freshOf_64 ?_
    refine J_icmp_geN (tgt := 108) dX7_freshOf_65 (by decide) (by omega) (by omega) (fun _ => ?_) (fun c => absurd c (by omega))
    exact kk1 i (fun j hj => hn j (by omega))
  | succ c ih =>
    intro i hi hn
    have hs := m_isShown (X := X) p (l := l) (e := i) (r := de D l e 0) (f := f) hl (by omega) ok.1 hf
    by_cases q : shn (de D l i) (de D l e 0) f = true
    · rw [bI_t q] at hs
      refine J_iload_8 dX7_freshOf_62 ?_
      refine J_iload_2 dX7_freshOf_64 ?_
      skip
      refine J_icmp_geN (tgt := 108) dX7_freshOf_65 (by decide) (by omega) (by omega) (fun c => absurd c (by omega)) (fun _ => ?_)
      refine J_iload_7 dX7_freshOf_68 ?_
      refine J_if_eq (tgt := 108) dX7_freshOf_70 (by decide) (fun c => absurd c (by decide)) (fun _ => ?_)
      refine J_aload_0 dX7_freshOf_73 ?_
      refine J_bipush (v := nI 8) dX7_freshOf_74 (by decide) ?_
      refine J_iload_1 dX7_freshOf_76 ?_
      first | refine J_imulN dX7_freshOf_77 ?_ | refine J_imul dX7_freshOf_77 ?_
      refine J_iload_8 dX7_freshOf_78 ?_
      first | refine J_iaddN dX7_freshOf_80 ?_ | refine J_iadd dX7_freshOf_80 ?_
      refine J_aload_0 dX7_freshOf_81 ?_
      refine J_get dX7_freshOf_82 fl_X7_13 h0 rfl ?_
      refine J_iload_3 dX7_freshOf_85 ?_
      refine J_iald dX7_freshOf_86 a0 rfl (by omega) (by omega) ?_
      refine J_topi (b := nI (de D l e 0)) (e0) ?_
      refine J_iload_6 dX7_freshOf_87 ?_
      refine J_cV3i dX7_freshOf_89 jmX7_isShown mv_X7_181 h0 rfl (Nat.le_of_ble_eq_true rfl) (by decide) (hs) ?_
      refine J_if_ne (tgt := 99) dX7_freshOf_92 (by decide) (fun _ => ?_) (fun c => absurd c (by decide))
      refine J_iconst (v := nI 0) dX7_freshOf_99 (by decide) ?_
      refine J_istore_7 dX7_freshOf_100 (Nat.le_of_ble_eq_true rfl) rfl ?_
      first | refine J_inc_8 dX7_freshOf_102 (Nat.le_of_ble_eq_true rfl) rfl ?_ | refine J_iinc_8 dX7_freshOf_102 rfl (Nat.le_of_ble_eq_true rfl) rfl ?_
      refine J_goto (tgt := 62) dX7_freshOf_105 (by decide) ?_
      have kz := kk0 (i + 1) (fun z => z i (by omega) q)
      by_cases y : i + 1 < e
      · refine J_iload_8 dX7_freshOf_62 ?_
        refine J_iload_2 dX7_freshOf_64 ?_
        refine J_icmp_geN (tgt := 108) dX7_freshOf_65 (by decide) (by omega) (by omega) (fun c => absurd c (by omega)) (fun _ => ?_)
        refine J_iload_7 dX7_freshOf_68 ?_
        exact J_if_eq (tgt := 108) dX7_freshOf_70 (by decide) (fun _ => kz) (fun c => absurd rfl c)
      · refine J_iload_8 dX7_freshOf_62 ?_
        refine J_iload_2 dX7_freshOf_64 ?_
        exact J_icmp_geN (tgt := 108) dX7_freshOf_65 (by decide) (by omega) (by omega) (fun _ => kz) (fun c => absurd c (by omega))
    · rw [bI_f q] at hs
      refine J_iload_8 dX7_freshOf_62 ?_
      refine J_iload_2 dX7_freshOf_64 ?_
      refine J_icmp_geN (tgt := 108) dX7_freshOf_65 (by decide) (by omega) (by omega) (fun c => absurd c (by omega)) (fun _ => ?_)
      refine J_iload_7 dX7_freshOf_68 ?_
      refine J_if_eq (tgt := 108) dX7_freshOf_70 (by decide) (fun c => absurd c (by decide)) (fun _ => ?_)
      refine J_aload_0 dX7_freshOf_73 ?_
      refine J_bipush (v := nI 8) dX7_freshOf_74 (by decide) ?_
      refine J_iload_1 dX7_freshOf_76 ?_
      first | refine J_imulN dX7_freshOf_77 ?_ | refine J_imul dX7_freshOf_77 ?_
      refine J_iload_8 dX7_freshOf_78 ?_
      first | refine J_iaddN dX7_freshOf_80 ?_ | refine J_iadd dX7_freshOf_80 ?_
      refine J_aload_0 dX7_freshOf_81 ?_
      refine J_get dX7_freshOf_82 fl_X7_13 h0 rfl ?_
      refine J_iload_3 dX7_freshOf_85 ?_
      refine J_iald dX7_freshOf_86 a0 rfl (by omega) (by omega) ?_
      refine J_topi (b := nI (de D l e 0)) (e0) ?_
      refine J_iload_6 dX7_freshOf_87 ?_
      refine J_cV3i dX7_freshOf_89 jmX7_isShown mv_X7_181 h0 rfl (Nat.le_of_ble_eq_true rfl) (by decide) (hs) ?_
      refine J_if_ne (tgt := 99) dX7_freshOf_92 (by decide) (fun c => absurd c (fun z => z rfl)) (fun _ => ?_)
      refine J_iconst (v := nI 1) dX7_freshOf_95 (by decide) ?_
      refine J_goto (tgt := 100) dX7_freshOf_96 (by decide) ?_
      refine J_istore_7 dX7_freshOf_100 (Nat.le_of_ble_eq_true rfl) rfl ?_
      first | refine J_inc_8 dX7_freshOf_102 (Nat.le_of_ble_eq_true rfl) rfl ?_ | refine J_iinc_8 dX7_freshOf_102 rfl (Nat.le_of_ble_eq_true rfl) rfl ?_
      refine J_goto (tgt := 62) dX7_freshOf_105 (by decide) ?_
      exact ih (i + 1) (by omega) (fun j hj => by by_cases z : j = i; (rw [z]; exact q); exact hn j (by omega))
theorem l_mfreshK (p : mdAt h D tb F) {l e tot : Nat} (hl : l < 2) (he : e < dn D l) : ∀ (c k s : Nat) (o6 o7 o8 : Option Value), lok o6 = true → lok o7 = true → k + c = de D l e 2 → s + shk (de D l) (dn D l) e k c = tot → J X RX7 cX7_freshOf 9 3 (some .int) (fun r h' => r = some (.int (nI tot)) ∧ h' = h) 13 [some (.ref 51), some (.int (nI l)), some (.int (nI e)), some (.int (nI (8 * l + e))), some (.int (nI s)), some (.int (nI k)), o6, o7, o8] [] h := by
  obtain ⟨h0, -, ⟨a0, a1, a2, a3, a4⟩, hF, -⟩ := id p
  obtain ⟨hE, ok, h8⟩ := mdE p hl he
  have e2 := hF l e 2 hl he (by decide)
  have o3 := ok.2.2.2.1
  have hok := fun i (hi : i < dn D l) => p.2.2.2.2.2.2.2.2.2.2.2.2.2.2.1 l i hl hi
  intro c
  induction c with
  | zero =>
    intro k s o6 o7 o8 l6 l7 hk hs
    have hs : s = tot := hs
    subst hs
    refine J_iload_5 dX7_freshOf_13 ?_
    refine J_aload_0 dX7_freshOf_15 ?_
    refine J_get dX7_freshOf_16 fl_X7_19 h0 rfl ?_
    refine J_iload_3 dX7_freshOf_19 ?_
    refine J_iald dX7_freshOf_20 a2 rfl (by omega) (by omega) ?_
    refine J_topi (b := nI (de D l e 2)) (e2) ?_
    refine J_icmp_geN (tgt := 129) dX7_freshOf_21 (by decide) (by omega) (by omega) (fun _ => ?_) (fun c => absurd c (by omega))
    refine J_iload_4 dX7_freshOf_129 ?_
    exact J_iret dX7_freshOf_131 rfl (⟨rfl, rfl⟩)
  | succ c ih =>
    intro k s o6 o7 o8 l6 l7 hk hs
    have f1 := fr_le ok (k := k) (by omega)
    have f2 := fr_le ok (k := k - 1) (by omega)
    have FI := fresh_iff hok he (k := k) (by omega)
    rw [shk] at hs
    have nxt : ∀ (b : Nat) (i : Nat), (b = if fss (de D l) (de D l e 0) (fr (de D l e) k) 0 (dn D l) = some (bg (de D l) e + k) then 1 else 0) → J X RX7 cX7_freshOf 9 3 (some .int) (fun r h' => r = some (.int (nI tot)) ∧ h' = h) 108 [some (.ref 51), some (.int (nI l)), some (.int (nI e)), some (.int (nI (8 * l + e))), some (.int (nI s)), some (.int (nI k)), some (.int (nI (fr (de D l e) k))), some (.int (nI b)), some (.int (nI i))] [] h := by
      intro b i hb
      rw [← hb] at hs
      have hb1 : b = 0 ∨ b = 1 := by rw [hb]; split; exact Or.inr rfl; exact Or.inl rfl
      rcases hb1 with rfl | rfl
      · refine J_iload_4 dX7_freshOf_108 ?_
        refine J_iload_7 dX7_freshOf_110 ?_
        refine J_if_eq (tgt := 119) dX7_freshOf_112 (by decide) (fun _ => ?_) (fun c => absurd (by rfl) c)
        refine J_iconst (v := nI 0) dX7_freshOf_119 (by decide) ?_
        first | refine J_iaddN dX7_freshOf_120 ?_ | refine J_iadd dX7_freshOf_120 ?_
        refine J_istore_4 dX7_freshOf_121 (Nat.le_of_ble_eq_true rfl) rfl ?_
        first | refine J_inc_5 dX7_freshOf_123 (Nat.le_of_ble_eq_true rfl) rfl ?_ | refine J_iinc_5 dX7_freshOf_123 rfl (Nat.le_of_ble_eq_true rfl) rfl ?_
        refine J_goto (tgt := 13) dX7_freshOf_126 (by decide) ?_
        exact ih (k + 1) _ _ _ _ rfl rfl (by omega) (by omega)
      · refine J_iload_4 dX7_freshOf_108 ?_
        refine J_iload_7 dX7_freshOf_110 ?_
        refine J_if_eq (tgt := 119) dX7_freshOf_112 (by decide) (fun c => absurd c (by decide)) (fun _ => ?_)
        refine J_iconst (v := nI 1) dX7_freshOf_115 (by decide) ?_
        refine J_goto (tgt := 120) dX7_freshOf_116 (by decide) ?_
        first | refine J_iaddN dX7_freshOf_120 ?_ | refine J_iadd dX7_freshOf_120 ?_
        refine J_istore_4 dX7_freshOf_121 (Nat.le_of_ble_eq_true rfl) rfl ?_
        first | refine J_inc_5 dX7_freshOf_123 (Nat.le_of_ble_eq_true rfl) rfl ?_ | refine J_iinc_5 dX7_freshOf_123 rfl (Nat.le_of_ble_eq_true rfl) rfl ?_
        refine J_goto (tgt := 13) dX7_freshOf_126 (by decide) ?_
        exact ih (k + 1) _ _ _ _ rfl rfl (by omega) (by omega)
    by_cases cF : k = 0 ∨ ¬ fr (de D l e) k = fr (de D l e) (k - 1)
    · have go : J X RX7 cX7_freshOf 9 3 (some .int) (fun r h' => r = some (.int (nI tot)) ∧ h' = h) 52 [some (.ref 51), some (.int (nI l)), some (.int (nI e)), some (.int (nI (8 * l + e))), some (.int (nI s)), some (.int (nI k)), some (.int (nI (fr (de D l e) k))), o7, o8] [] h := by
        refine J_iconst (v := nI 1) dX7_freshOf_52 (by decide) ?_
        refine J_goto (tgt := 57) dX7_freshOf_53 (by decide) ?_
        refine J_istore_7 dX7_freshOf_57 (Nat.le_of_ble_eq_true rfl) rfl ?_
        refine J_iconst (v := nI 0) dX7_freshOf_59 (by decide) ?_
        refine J_istore_8 dX7_freshOf_60 (Nat.le_of_ble_eq_true rfl) rfl ?_
        exact l_mfreshI p hl he (by omega) (fun i hq => nxt 1 i (by rw [if_pos (FI.mpr ⟨cF, hq⟩)])) (fun i hq => nxt 0 i (by rw [if_neg (fun z => hq (FI.mp z).2)])) e 0 (by omega) (fun j hj => by omega)
      by_cases k0 : k = 0
      · refine J_iload_5 dX7_freshOf_13 ?_
        refine J_aload_0 dX7_freshOf_15 ?_
        refine J_get dX7_freshOf_16 fl_X7_19 h0 rfl ?_
        refine J_iload_3 dX7_freshOf_19 ?_
        refine J_iald dX7_freshOf_20 a2 rfl (by omega) (by omega) ?_
        refine J_topi (b := nI (de D l e 2)) (e2) ?_
        refine J_icmp_geN (tgt := 129) dX7_freshOf_21 (by decide) (by omega) (by omega) (fun c => absurd c (by omega)) (fun _ => ?_)
        refine J_aload_0 dX7_freshOf_24 ?_
        refine J_iload_3 dX7_freshOf_25 ?_
        refine J_iload_5 dX7_freshOf_26 ?_
        refine J_cV2i dX7_freshOf_28 jmX7_frameOf mv_X7_107 h0 rfl (Nat.le_of_ble_eq_true rfl) (by decide) (m_frameOf p hl he (by omega)) ?_
        refine J_istore_6 dX7_freshOf_31 (Nat.le_of_ble_eq_true rfl) rfl ?_
        refine J_iload_5 dX7_freshOf_33 ?_
        refine J_if_eqN (tgt := 52) dX7_freshOf_35 (by decide) (by omega) (fun _ => ?_) (fun c => absurd c (by omega))
        exact go
      · have cF := cF.resolve_left k0
        refine J_iload_5 dX7_freshOf_13 ?_
        refine J_aload_0 dX7_freshOf_15 ?_
        refine J_get dX7_freshOf_16 fl_X7_19 h0 rfl ?_
        refine J_iload_3 dX7_freshOf_19 ?_
        refine J_iald dX7_freshOf_20 a2 rfl (by omega) (by omega) ?_
        refine J_topi (b := nI (de D l e 2)) (e2) ?_
        refine J_icmp_geN (tgt := 129) dX7_freshOf_21 (by decide) (by omega) (by omega) (fun c => absurd c (by omega)) (fun _ => ?_)
        refine J_aload_0 dX7_freshOf_24 ?_
        refine J_iload_3 dX7_freshOf_25 ?_
        refine J_iload_5 dX7_freshOf_26 ?_
        refine J_cV2i dX7_freshOf_28 jmX7_frameOf mv_X7_107 h0 rfl (Nat.le_of_ble_eq_true rfl) (by decide) (m_frameOf p hl he (by omega)) ?_
        refine J_istore_6 dX7_freshOf_31 (Nat.le_of_ble_eq_true rfl) rfl ?_
        refine J_iload_5 dX7_freshOf_33 ?_
        refine J_if_eqN (tgt := 52) dX7_freshOf_35 (by decide) (by omega) (fun c => absurd c (by omega)) (fun _ => ?_)
        refine J_iload_6 dX7_freshOf_38 ?_
        refine J_aload_0 dX7_freshOf_40 ?_
        refine J_iload_3 dX7_freshOf_41 ?_
        refine J_iload_5 dX7_freshOf_42 ?_
        refine J_iconst (v := nI 1) dX7_freshOf_44 (by decide) ?_
        first | refine J_isubN dX7_freshOf_45 (by omega) ?_ | refine J_isub dX7_freshOf_45 ?_
        refine J_cV2i dX7_freshOf_46 jmX7_frameOf mv_X7_107 h0 rfl (Nat.le_of_ble_eq_true rfl) (by decide) (m_frameOf p hl he (by omega)) ?_
        refine J_icmp_eqN (tgt := 56) dX7_freshOf_49 (by decide) (by omega) (by omega) (fun c => absurd c (by omega)) (fun _ => ?_)
        exact go
    · have cK : ¬ k = 0 := fun z => cF (Or.inl z)
      have cE : fr (de D l e) k = fr (de D l e) (k - 1) := Decidable.byContradiction (fun z => cF (Or.inr z))
      have kz := nxt 0 0 (by rw [if_neg (fun z => cF (FI.mp z).1)])
      refine J_iload_5 dX7_freshOf_13 ?_
      refine J_aload_0 dX7_freshOf_15 ?_
      refine J_get dX7_freshOf_16 fl_X7_19 h0 rfl ?_
      refine J_iload_3 dX7_freshOf_19 ?_
      refine J_iald dX7_freshOf_20 a2 rfl (by omega) (by omega) ?_
      refine J_topi (b := nI (de D l e 2)) (e2) ?_
      refine J_icmp_geN (tgt := 129) dX7_freshOf_21 (by decide) (by omega) (by omega) (fun c => absurd c (by omega)) (fun _ => ?_)
      refine J_aload_0 dX7_freshOf_24 ?_
      refine J_iload_3 dX7_freshOf_25 ?_
      refine J_iload_5 dX7_freshOf_26 ?_
      refine J_cV2i dX7_freshOf_28 jmX7_frameOf mv_X7_107 h0 rfl (Nat.le_of_ble_eq_true rfl) (by decide) (m_frameOf p hl he (by omega)) ?_
      refine J_istore_6 dX7_freshOf_31 (Nat.le_of_ble_eq_true rfl) rfl ?_
      refine J_iload_5 dX7_freshOf_33 ?_
      refine J_if_eqN (tgt := 52) dX7_freshOf_35 (by decide) (by omega) (fun c => absurd c (by omega)) (fun _ => ?_)
      refine J_iload_6 dX7_freshOf_38 ?_
      refine J_aload_0 dX7_freshOf_40 ?_
      refine J_iload_3 dX7_freshOf_41 ?_
      refine J_iload_5 dX7_freshOf_42 ?_
      refine J_iconst (v := nI 1) dX7_freshOf_44 (by decide) ?_
      first | refine J_isubN dX7_freshOf_45 (by omega) ?_ | refine J_isub dX7_freshOf_45 ?_
      refine J_cV2i dX7_freshOf_46 jmX7_frameOf mv_X7_107 h0 rfl (Nat.le_of_ble_eq_true rfl) (by decide) (m_frameOf p hl he (by omega)) ?_
      refine J_icmp_eqN (tgt := 56) dX7_freshOf_49 (by decide) (by omega) (by omega) (fun _ => ?_) (fun c => absurd c (by omega))
      refine J_iconst (v := nI 0) dX7_freshOf_56 (by decide) ?_
      refine J_istore_7 dX7_freshOf_57 (Nat.le_of_ble_eq_true rfl) rfl ?_
      refine J_iconst (v := nI 0) dX7_freshOf_59 (by decide) ?_
      refine J_istore_8 dX7_freshOf_60 (Nat.le_of_ble_eq_true rfl) rfl ?_
      refine J_iload_8 dX7_freshOf_62 ?_
      refine J_iload_2 dX7_freshOf_64 ?_
      first | refine J_icmp_geN (tgt := 108) dX7_freshOf_65 (by decide) (by omega) (by omega) (fun c65 => ?_) (fun c65 => ?_) | refine J_icmp_ge (tgt := 108) dX7_freshOf_65 (by decide) (fun c65 => ?_) (fun c65 => ?_)
      · exact kz
      · refine J_iload_7 dX7_freshOf_68 ?_
        refine J_if_eq (tgt := 108) dX7_freshOf_70 (by decide) (fun _ => ?_) (fun c => absurd (by rfl) c)
        exact kz
theorem m_freshOf (p : mdAt h D tb F) {l e : Nat} (hl : l < 2) (he : e < dn D l) : CtI X mX7_freshOf 3 [.ref 51, .int (nI l), .int (nI e)] h (nI (shk (de D l) (dn D l) e 0 (de D l e 2))) := by
  refine Ct_of jmX7_freshOf [some (.ref 51), some (.int (nI l)), some (.int (nI e)), none, none, none, none, none, none] (Nat.le_of_ble_eq_true rfl) rfl ?_
  show J X RX7 cX7_freshOf 9 _ (some .int) _ 0 _ _ _
  refine J_bipush (v := nI 8) dX7_freshOf_0 (by decide) ?_
  refine J_iload_1 dX7_freshOf_2 ?_
  first | refine J_imulN dX7_freshOf_3 ?_ | refine J_imul dX7_freshOf_3 ?_
  refine J_iload_2 dX7_freshOf_4 ?_
  first | refine J_iaddN dX7_freshOf_5 ?_ | refine J_iadd dX7_freshOf_5 ?_
  refine J_istore_3 dX7_freshOf_6 (Nat.le_of_ble_eq_true rfl) rfl ?_
  refine J_iconst (v := nI 0) dX7_freshOf_7 (by decide) ?_
  refine J_istore_4 dX7_freshOf_8 (Nat.le_of_ble_eq_true rfl) rfl ?_
  refine J_iconst (v := nI 0) dX7_freshOf_10 (by decide) ?_
  refine J_istore_5 dX7_freshOf_11 (Nat.le_of_ble_eq_true rfl) rfl ?_
  exact l_mfreshK p hl he (de D l e 2) 0 0 _ _ _ rfl rfl (by omega) (by omega)
theorem isub_sub (a b c : Int32) : a - b - c = a - (b + c) := by
  rw [Int32.sub_eq_add_neg, Int32.sub_eq_add_neg, Int32.sub_eq_add_neg, Int32.neg_add, Int32.sub_eq_add_neg, Int32.add_assoc]
theorem l_mwaste (p : mdAt h D tb F) {l A tot : Nat} (hl : l < 2) : ∀ (c i s : Nat), i + c = dn D l → s + sh (de D l) (dn D l) i c = tot → J X RX7 cX7_wasteOf 4 4 (some .int) (fun r h' => r = some (.int (nI A - nI tot)) ∧ h' = h) 14 [some (.ref 51), some (.int (nI l)), some (.int (nI A - nI s)), some (.int (nI i))] [] h := by
  obtain ⟨h0, ⟨fm, hfm, hm0⟩, -⟩ := id p
  have h8 := p.2.2.2.2.2.2.2.2.2.2.2.2.2.1 l hl
  intro c
  induction c with
  | zero =>
    intro i s hi hs
    have hs : s = tot := hs
    subst hs
    refine J_iload_3 dX7_wasteOf_14 ?_
    refine J_aload_0 dX7_wasteOf_15 ?_
    refine J_get dX7_wasteOf_16 fl_X7_7 h0 rfl ?_
    refine J_iload_1 dX7_wasteOf_19 ?_
    refine J_iald dX7_wasteOf_20 hfm rfl (by omega) (by omega) ?_
    refine J_topi (b := nI (dn D l)) (hm0 l hl) ?_
    refine J_icmp_geN (tgt := 39) dX7_wasteOf_21 (by decide) (by omega) (by omega) (fun _ => ?_) (fun c => absurd c (by omega))
    refine J_iload_2 dX7_wasteOf_39 ?_
    exact J_iret dX7_wasteOf_40 rfl (⟨rfl, rfl⟩)
  | succ c ih =>
    intro i s hi hs
    rw [sh] at hs
    refine J_iload_3 dX7_wasteOf_14 ?_
    refine J_aload_0 dX7_wasteOf_15 ?_
    refine J_get dX7_wasteOf_16 fl_X7_7 h0 rfl ?_
    refine J_iload_1 dX7_wasteOf_19 ?_
    refine J_iald dX7_wasteOf_20 hfm rfl (by omega) (by omega) ?_
    refine J_topi (b := nI (dn D l)) (hm0 l hl) ?_
    refine J_icmp_geN (tgt := 39) dX7_wasteOf_21 (by decide) (by omega) (by omega) (fun c => absurd c (by omega)) (fun _ => ?_)
    refine J_iload_2 dX7_wasteOf_24 ?_
    refine J_aload_0 dX7_wasteOf_25 ?_
    refine J_iload_1 dX7_wasteOf_26 ?_
    refine J_iload_3 dX7_wasteOf_27 ?_
    refine J_cV2i dX7_wasteOf_28 jmX7_freshOf mv_X7_187 h0 rfl (Nat.le_of_ble_eq_true rfl) (by decide) (m_freshOf p hl (by omega)) ?_
    refine J_isub dX7_wasteOf_31 ?_
    refine J_topi (b := nI A - nI (s + shk (de D l) (dn D l) i 0 (de D l i 2))) (by rw [isub_sub, nI_add]) ?_
    refine J_istore_2 dX7_wasteOf_32 (Nat.le_of_ble_eq_true rfl) rfl ?_
    first | refine J_inc_3 dX7_wasteOf_33 (Nat.le_of_ble_eq_true rfl) rfl ?_ | refine J_iinc_3 dX7_wasteOf_33 rfl (Nat.le_of_ble_eq_true rfl) rfl ?_
    refine J_goto (tgt := 14) dX7_wasteOf_36 (by decide) ?_
    exact ih (i + 1) _ (by omega) (by omega)
theorem isub_0 (a : Int32) : a - nI 0 = a := Int32.sub_zero a
theorem m_wasteOf (p : mdAt h D tb F) (q : mps h m V) {l : Nat} (hl : l < 2) : Ct X mX7_wasteOf 4 [.ref 51, .int (nI l)] h (fun r h' => r = some (.int (sWaste D l)) ∧ mdAt h' D tb F ∧ (∃ m' V', mps h' m' V') ∧ offB h h' 60 65) := by
  have h0 := p.1
  refine Ct_of jmX7_wasteOf [some (.ref 51), some (.int (nI l)), none, none] (Nat.le_of_ble_eq_true rfl) rfl ?_
  show J X RX7 cX7_wasteOf 4 _ (some .int) _ 0 _ _ _
  refine J_aload_0 dX7_wasteOf_0 ?_
  refine J_iload_1 dX7_wasteOf_1 ?_
  refine J_iconst (v := -1) dX7_wasteOf_2 (by decide) ?_
  refine J_cV2 dX7_wasteOf_3 jmX7_pullsOf mv_X7_169 h0 rfl (Nat.le_of_ble_eq_true rfl) (by decide) (m_pullsOf p q hl wN8) (fun r h' q => ?_)
  obtain ⟨rfl, p2, ⟨m', V', Q2, ql, -⟩, o2⟩ := q
  refine J_aload_0 dX7_wasteOf_6 ?_
  refine J_iload_1 dX7_wasteOf_7 ?_
  refine J_cV1i dX7_wasteOf_8 jmX7_framesNow mv_X7_184 p2.1 rfl (Nat.le_of_ble_eq_true rfl) (by decide) (m_framesNow p2 Q2 hl ql) ?_
  refine J_topi (b := nI (frk (plG D l 8) 0 (plN D l 8)) - nI 0) ((isub_0 _).symm) ?_
  refine J_istore_2 dX7_wasteOf_11 (Nat.le_of_ble_eq_true rfl) rfl ?_
  refine J_iconst (v := nI 0) dX7_wasteOf_12 (by decide) ?_
  refine J_istore_3 dX7_wasteOf_13 (Nat.le_of_ble_eq_true rfl) rfl ?_
  refine J_mono (l_mwaste p2 hl (dn D l) 0 0 (by omega) (Nat.zero_add _)) ?_
  rintro r h3 ⟨e1, rfl⟩
  exact ⟨e1, p2, ⟨m', V', Q2⟩, o2⟩
theorem m_waste_bad {l : Int32} (hb : ¬ (0 ≤ l ∧ l < nI 2)) : CtI X mX7_waste 5 [.ref 51, .int l] h (-2) := by
  refine Ct_of jmX7_waste [some (.ref 51), some (.int l)] (Nat.le_of_ble_eq_true rfl) rfl ?_
  show J X RX7 cX7_waste 2 _ (some .int) _ 0 _ _ _
  refine J_iload_1 dX7_waste_0 ?_
  refine J_cS1i dX7_waste_1 jmX7_isList ms_X7_82 (Nat.le_of_ble_eq_true rfl) (by decide) (m_listF hb) ?_
  refine J_if_eq (tgt := 15) dX7_waste_4 (by decide) (fun _ => ?_) (fun c => absurd (by decide) c)
  refine J_bipush (v := -2) dX7_waste_15 (by decide) ?_
  exact J_iret dX7_waste_17 rfl (⟨rfl, rfl⟩)
theorem m_waste_ok (p : mdAt h D tb F) {l : Nat} (hl : l < 2) : Ct X mX7_waste 5 [.ref 51, .int (nI l)] h (fun r h' => r = some (.int (sWaste D l)) ∧ moAt h' D ∧ offB h h' 51 71) := by
  have h0 := p.1
  obtain ⟨m, V, q⟩ := mps_of p
  refine Ct_of jmX7_waste [some (.ref 51), some (.int (nI l))] (Nat.le_of_ble_eq_true rfl) rfl ?_
  show J X RX7 cX7_waste 2 _ (some .int) _ 0 _ _ _
  refine J_iload_1 dX7_waste_0 ?_
  refine J_cS1i dX7_waste_1 jmX7_isList ms_X7_82 (Nat.le_of_ble_eq_true rfl) (by decide) (m_listT hl) ?_
  refine J_if_eq (tgt := 15) dX7_waste_4 (by decide) (fun c => absurd c (by decide)) (fun _ => ?_)
  refine J_aload_0 dX7_waste_7 ?_
  refine J_iload_1 dX7_waste_8 ?_
  refine J_cV1 dX7_waste_9 jmX7_wasteOf mv_X7_190 h0 rfl (Nat.le_of_ble_eq_true rfl) (by decide) (m_wasteOf p q hl) (fun r h' q => ?_)
  obtain ⟨rfl, p2, -, o2⟩ := q
  refine J_goto (tgt := 17) dX7_waste_12 (by decide) ?_
  exact J_iret dX7_waste_17 rfl (⟨rfl, ⟨_, _, p2⟩, o2.wide (by omega) (by omega)⟩)
end
