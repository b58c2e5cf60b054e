/-! which frames are shown for the first time -/
theorem fsk_some {x : Nat → Nat} {f : Nat} : ∀ (m k j : Nat), fsk x f k m = some j → k ≤ j ∧ j < k + m ∧ fr x j = f ∧ ∀ i, k ≤ i → i < j → ¬ fr x i = f := by
  intro m
  induction m with
  | zero => intro k j h; cases h
  | succ m ih =>
    intro k j h
    rw [fsk] at h
    by_cases c : fr x k = f
    · rw [if_pos c] at h
      cases h
      exact ⟨Nat.le_refl _, by omega, c, fun i h1 h2 => by omega⟩
    · rw [if_neg c] at h
      obtain ⟨h1, h2, h3, h4⟩ := ih (k + 1) j h
      exact ⟨by omega, by omega, h3, fun i q1 q2 => by by_cases z : i = k; (rw [z]; exact c); exact h4 i (by omega) q2⟩
theorem fsk_none {x : Nat → Nat} {f : Nat} : ∀ (m k : Nat), fsk x f k m = none → ∀ i, k ≤ i → i < k + m → ¬ fr x i = f := by
  intro m
  induction m with
  | zero => intro k h i h1 h2; omega
  | succ m ih =>
    intro k h i h1 h2
    rw [fsk] at h
    by_cases c : fr x k = f
    · rw [if_pos c] at h
      cases h
    · rw [if_neg c] at h
      by_cases z : i = k
      · rw [z]; exact c
      · exact ih (k + 1) h i (by omega) (by omega)
/-- EDIT x shows frame f of reel r -/
def shn (x : Nat → Nat) (r f : Nat) : Bool := decide (x 0 = r) && (fs x f).isSome
theorem shn_of {x : Nat → Nat} (ok : edOk x) {f k : Nat} (hk : k < x 2) (hf : fr x k = f) : shn x (x 0) f = true := by
  unfold shn
  cases h : fs x f with
  | none =>
    rw [← fsk_fs ok] at h
    exact absurd hf (fsk_none _ _ h k (Nat.zero_le _) (by omega))
  | some j => simp
theorem fss_some {x : Nat → Nat → Nat} {r f : Nat} : ∀ (k e v : Nat), fss x r f e k = some v → ∃ i j, e ≤ i ∧ i < e + k ∧ x i 0 = r ∧ fs (x i) f = some j ∧ v = bg x i + j ∧ ∀ i', e ≤ i' → i' < i → ¬ shn (x i') r f = true := by
  intro k
  induction k with
  | zero => intro e v h; cases h
  | succ k ih =>
    intro e v h
    rw [fss] at h
    by_cases c : x e 0 = r
    · rw [if_pos c] at h
      cases hq : fs (x e) f with
      | some j =>
        rw [hq] at h
        cases h
        exact ⟨e, j, Nat.le_refl _, by omega, c, hq, rfl, fun i' h1 h2 => by omega⟩
      | none =>
        rw [hq] at h
        obtain ⟨i, j, h1, h2, h3, h4, h5, h6⟩ := ih (e + 1) v h
        refine ⟨i, j, by omega, by omega, h3, h4, h5, fun i' q1 q2 => ?_⟩
        by_cases z : i' = e
        · rw [z]; unfold shn; rw [hq]; simp
        · exact h6 i' (by omega) q2
    · rw [if_neg c] at h
      obtain ⟨i, j, h1, h2, h3, h4, h5, h6⟩ := ih (e + 1) v h
      refine ⟨i, j, by omega, by omega, h3, h4, h5, fun i' q1 q2 => ?_⟩
      by_cases z : i' = e
      · rw [z]; unfold shn; simp [c]
      · exact h6 i' (by omega) q2
theorem fss_none {x : Nat → Nat → Nat} {r f : Nat} : ∀ (k e : Nat), fss x r f e k = none → ∀ i, e ≤ i → i < e + k → ¬ shn (x i) r f = true := by
  intro k
  induction k with
  | zero => intro e h i h1 h2; omega
  | succ k ih =>
    intro e h i h1 h2
    rw [fss] at h
    by_cases c : x e 0 = r
    · rw [if_pos c] at h
      cases hq : fs (x e) f with
      | some j => rw [hq] at h; cases h
      | none =>
        rw [hq] at h
        by_cases z : i = e
        · rw [z]; unfold shn; rw [hq]; simp
        · exact ih (e + 1) h i (by omega) (by omega)
    · rw [if_neg c] at h
      by_cases z : i = e
      · rw [z]; unfold shn; simp [c]
      · exact ih (e + 1) h i (by omega) (by omega)
theorem bg_mono2 {x : Nat → Nat → Nat} {a b : Nat} (h : a ≤ b) : bg x a ≤ bg x b := by
  induction b with
  | zero => have : a = 0 := by omega
            subst this; exact Nat.le_refl _
  | succ b ih =>
    by_cases z : a = b + 1
    · rw [z]; exact Nat.le_refl _
    · have := ih (by omega)
      show bg x a ≤ bg x b + x b 2
      omega
theorem fresh_iff {x : Nat → Nat → Nat} {n e k : Nat} (hok : ∀ i, i < n → edOk (x i)) (he : e < n) (hk : k < x e 2) : fss x (x e 0) (fr (x e) k) 0 n = some (bg x e + k) ↔ (k = 0 ∨ ¬ fr (x e) k = fr (x e) (k - 1)) ∧ ∀ i, i < e → ¬ shn (x i) (x e 0) (fr (x e) k) = true := by
  have ok := hok e he
  have se := shn_of ok hk rfl
  constructor
  · intro h
    obtain ⟨i, j, h1, h2, h3, h4, h5, h6⟩ := fss_some _ _ _ h
    rw [← fsk_fs (hok i (by omega))] at h4
    obtain ⟨q1, q2, q3, q4⟩ := fsk_some _ _ _ h4
    have hie : i = e := by
      rcases Nat.lt_trichotomy i e with z | z | z
      · have b := @bg_mono2 x (i + 1) e (by omega)
        have b2 : bg x (i + 1) = bg x i + x i 2 := rfl
        omega
      · exact z
      · exact absurd se (h6 e (by omega) z)
    subst hie
    have hjk : j = k := by omega
    subst hjk
    refine ⟨?_, fun i' hi' => h6 i' (by omega) hi'⟩
    by_cases z : j = 0
    · exact Or.inl z
    · exact Or.inr (fun y => q4 (j - 1) (by omega) (by omega) y.symm)
  · rintro ⟨h1, h2⟩
    cases hq : fss x (x e 0) (fr (x e) k) 0 n with
    | none => exact absurd se (fss_none _ _ hq e (by omega) (by omega))
    | some v =>
      obtain ⟨i, j, g1, g2, g3, g4, g5, g6⟩ := fss_some _ _ _ hq
      have hie : i = e := by
        rcases Nat.lt_trichotomy i e with z | z | z
        · refine absurd ?_ (h2 i z)
          unfold shn
          rw [g4, g3]
          simp
        · exact z
        · exact absurd se (g6 e (by omega) z)
      subst hie
      rw [← fsk_fs ok] at g4
      obtain ⟨q1, q2, q3, q4⟩ := fsk_some _ _ _ g4
      have hjk : j = k := by
        rcases Nat.lt_trichotomy j k with z | z | z
        · have m1 := @fr_mono (x i) j (k - 1) (by omega)
          have m2 := @fr_mono (x i) (k - 1) k (by omega)
          omega
        · exact z
        · exact absurd rfl (q4 k (by omega) z)
      rw [g5, hjk]
section
variable {X : Cx} {h : HF} {D : DS} {tb : Int32} {F : Nat → Nat → Int32} {m : Nat → Nat} {V : Nat → Nat → Nat}
theorem shn_fal {x : Nat → Nat} {r f : Nat} : shn x r f = true ↔ x 0 = r ∧ fal x (f - x 1) < x 2 ∧ fr x (fal x (f - x 1)) = f := by
  unfold shn fs
  rw [Bool.and_eq_true, decide_eq_true_eq]
  constructor
  · rintro ⟨h1, h2⟩
    by_cases c : fal x (f - x 1) < x 2 ∧ fr x (fal x (f - x 1)) = f
    · exact ⟨h1, c⟩
    · rw [if_neg c] at h2; cases h2
  · rintro ⟨h1, c⟩
    rw [if_pos c]
    exact ⟨h1, rfl⟩
theorem m_isShown (p : mdAt h D tb F) {l e r f : Nat} (hl : l < 2) (he : e < dn D l) (hr : r < 6) (hf : f < 300000) : CtI X mX7_isShown 2 [.ref 51, .int (nI (8 * l + e)), .int (nI r), .int (nI f)] h (bI (shn (de D l e) r f = true)) := by
  obtain ⟨h0, -, ⟨a0, a1, a2, a3, a4⟩, hF, -⟩ := id p
  obtain ⟨hE, ok, h8⟩ := mdE p hl he
  obtain ⟨o0, o1, o2, o3, o4, o5, o6⟩ := id ok
  have e0 := hF l e 0 hl he (by decide)
  have e1 := hF l e 1 hl he (by decide)
  have e2 := hF l e 2 hl he (by decide)
  have e3 := hF l e 3 hl he (by decide)
  have e4 := hF l e 4 hl he (by decide)
  have hL := last_le ok
  have hg : de D l e 1 ≤ fl_ (de D l e) := fr_ge
  refine Ct_of jmX7_isShown [some (.ref 51), some (.int (nI (8 * l + e))), some (.int (nI r)), some (.int (nI f)), none, none] (Nat.le_of_ble_eq_true rfl) rfl ?_
  show J X RX7 cX7_isShown 6 _ (some .boolean) _ 0 _ _ _
  by_cases c1 : de D l e 0 = r ∧ de D l e 1 ≤ f ∧ f ≤ fl_ (de D l e)
  · obtain ⟨c1, c2, c3⟩ := c1
    have ho : f - de D l e 1 ≤ 3000 := by
      have : fl_ (de D l e) ≤ de D l e 1 + 3000 := by
        unfold fl_ fr
        have m1 : (de D l e 2 - 1) * de D l e 3 ≤ 500 * 6 := Nat.mul_le_mul (by omega) o4
        have := Nat.div_le_self ((de D l e 2 - 1) * de D l e 3) (de D l e 4)
        omega
      omega
    have hm : (f - de D l e 1) * de D l e 4 ≤ 3000 * 6 := Nat.mul_le_mul ho o6
    have key : ∀ kk : Nat, kk ≤ 20000 → (fal (de D l e) (f - de D l e 1) = if kk < de D l e 2 then kk else de D l e 2) → J X RX7 cX7_isShown 6 2 (some .boolean) (fun q h' => q = some (.int (bI (shn (de D l e) r f = true))) ∧ h' = h) 79 [some (.ref 51), some (.int (nI (8 * l + e))), some (.int (nI r)), some (.int (nI f)), some (.int (nI (f - de D l e 1))), none] [.int (nI kk)] h := by
      intro kk hkk hfal
      by_cases c4 : kk < de D l e 2
      · rw [if_pos c4] at hfal
        have hfr := fr_le ok (k := kk) (by omega)
        refine J_istore_5 dX7_isShown_79 (Nat.le_of_ble_eq_true rfl) rfl ?_
        refine J_iload_5 dX7_isShown_81 ?_
        refine J_aload_0 dX7_isShown_83 ?_
        refine J_get dX7_isShown_84 fl_X7_19 h0 rfl ?_
        refine J_iload_1 dX7_isShown_87 ?_
        refine J_iald dX7_isShown_88 a2 rfl (by omega) (by omega) ?_
        refine J_topi (b := nI (de D l e 2)) (e2) ?_
        refine J_icmp_geN (tgt := 107) dX7_isShown_89 (by decide) (by omega) (by omega) (fun c => absurd c (by omega)) (fun _ => ?_)
        refine J_aload_0 dX7_isShown_92 ?_
        refine J_iload_1 dX7_isShown_93 ?_
        refine J_iload_5 dX7_isShown_94 ?_
        refine J_cV2i dX7_isShown_96 jmX7_frameOf mv_X7_107 h0 rfl (Nat.le_of_ble_eq_true rfl) (by decide) (m_frameOf p hl he (by omega)) ?_
        refine J_iload_3 dX7_isShown_99 ?_
        first | refine J_icmp_neN (tgt := 107) dX7_isShown_100 (by decide) (by omega) (by omega) (fun c100 => ?_) (fun c100 => ?_) | refine J_icmp_ne (tgt := 107) dX7_isShown_100 (by decide) (fun c100 => ?_) (fun c100 => ?_)
        · have eb : bI (shn (de D l e) r f = true) = 0 := bI_f (fun z => by have z := shn_fal.mp z; rw [hfal] at z; exact c100 z.2.2)
          refine J_iconst (v := nI 0) dX7_isShown_107 (by decide) ?_
          exact J_zret dX7_isShown_108 rfl (by first | exact Or.inl rfl | exact Or.inr rfl | exact bI_01 _) (⟨by rw [eb]; rfl, rfl⟩)
        · have eb : bI (shn (de D l e) r f = true) = 1 := bI_t (shn_fal.mpr ⟨c1, by rw [hfal]; exact c4, by rw [hfal]; exact c100⟩)
          refine J_iconst (v := nI 1) dX7_isShown_103 (by decide) ?_
          refine J_goto (tgt := 108) dX7_isShown_104 (by decide) ?_
          exact J_zret dX7_isShown_108 rfl (by first | exact Or.inl rfl | exact Or.inr rfl | exact bI_01 _) (⟨by rw [eb]; rfl, rfl⟩)
      · rw [if_neg c4] at hfal
        have eb : bI (shn (de D l e) r f = true) = 0 := bI_f (fun z => by have z := shn_fal.mp z; rw [hfal] at z; omega)
        refine J_istore_5 dX7_isShown_79 (Nat.le_of_ble_eq_true rfl) rfl ?_
        refine J_iload_5 dX7_isShown_81 ?_
        refine J_aload_0 dX7_isShown_83 ?_
        refine J_get dX7_isShown_84 fl_X7_19 h0 rfl ?_
        refine J_iload_1 dX7_isShown_87 ?_
        refine J_iald dX7_isShown_88 a2 rfl (by omega) (by omega) ?_
        refine J_topi (b := nI (de D l e 2)) (e2) ?_
        refine J_icmp_geN (tgt := 107) dX7_isShown_89 (by decide) (by omega) (by omega) (fun _ => ?_) (fun c => absurd c (by omega))
        refine J_iconst (v := nI 0) dX7_isShown_107 (by decide) ?_
        exact J_zret dX7_isShown_108 rfl (by first | exact Or.inl rfl | exact Or.inr rfl | exact bI_01 _) (⟨by rw [eb]; rfl, rfl⟩)
    have hdiv := Nat.div_le_self ((f - de D l e 1) * de D l e 4 + de D l e 3 - 1) (de D l e 3)
    refine J_aload_0 dX7_isShown_0 ?_
    refine J_get dX7_isShown_1 fl_X7_13 h0 rfl ?_
    refine J_iload_1 dX7_isShown_4 ?_
    refine J_iald dX7_isShown_5 a0 rfl (by omega) (by omega) ?_
    refine J_topi (b := nI (de D l e 0)) (e0) ?_
    refine J_iload_2 dX7_isShown_6 ?_
    refine J_icmp_neN (tgt := 29) dX7_isShown_7 (by decide) (by omega) (by omega) (fun c => absurd c (by omega)) (fun _ => ?_)
    refine J_iload_3 dX7_isShown_10 ?_
    refine J_aload_0 dX7_isShown_11 ?_
    refine J_get dX7_isShown_12 fl_X7_16 h0 rfl ?_
    refine J_iload_1 dX7_isShown_15 ?_
    refine J_iald dX7_isShown_16 a1 rfl (by omega) (by omega) ?_
    refine J_topi (b := nI (de D l e 1)) (e1) ?_
    refine J_icmp_ltN (tgt := 29) dX7_isShown_17 (by decide) (by omega) (by omega) (fun c => absurd c (by omega)) (fun _ => ?_)
    refine J_iload_3 dX7_isShown_20 ?_
    refine J_aload_0 dX7_isShown_21 ?_
    refine J_iload_1 dX7_isShown_22 ?_
    refine J_cV1i dX7_isShown_23 jmX7_lastOf mv_X7_114 h0 rfl (Nat.le_of_ble_eq_true rfl) (by decide) (m_lastOf p hl he) ?_
    refine J_icmp_leN (tgt := 31) dX7_isShown_26 (by decide) (by omega) (by omega) (fun _ => ?_) (fun c => absurd c (by omega))
    refine J_iload_3 dX7_isShown_31 ?_
    refine J_aload_0 dX7_isShown_32 ?_
    refine J_get dX7_isShown_33 fl_X7_16 h0 rfl ?_
    refine J_iload_1 dX7_isShown_36 ?_
    refine J_iald dX7_isShown_37 a1 rfl (by omega) (by omega) ?_
    refine J_topi (b := nI (de D l e 1)) (e1) ?_
    first | refine J_isubN dX7_isShown_38 (by omega) ?_ | refine J_isub dX7_isShown_38 ?_
    refine J_istore_4 dX7_isShown_39 (Nat.le_of_ble_eq_true rfl) rfl ?_
    refine J_aload_0 dX7_isShown_41 ?_
    refine J_get dX7_isShown_42 fl_X7_22 h0 rfl ?_
    refine J_iload_1 dX7_isShown_45 ?_
    refine J_iald dX7_isShown_46 a3 rfl (by omega) (by omega) ?_
    refine J_topi (b := nI (de D l e 3)) (e3) ?_
    first | refine J_if_neB (tgt := 54) dX7_isShown_47 (by decide) (fun c47 => ?_) (fun c47 => ?_) | refine J_if_neN (tgt := 54) dX7_isShown_47 (by decide) (by omega) (fun c47 => ?_) (fun c47 => ?_) | refine J_if_ne (tgt := 54) dX7_isShown_47 (by decide) (fun c47 => ?_) (fun c47 => ?_)
    · have z1 : de D l e 3 ≠ 0 := by omega
      refine J_iload_4 dX7_isShown_54 ?_
      refine J_aload_0 dX7_isShown_56 ?_
      refine J_get dX7_isShown_57 fl_X7_25 h0 rfl ?_
      refine J_iload_1 dX7_isShown_60 ?_
      refine J_iald dX7_isShown_61 a4 rfl (by omega) (by omega) ?_
      refine J_topi (b := nI (de D l e 4)) (e4) ?_
      first | refine J_imulN dX7_isShown_62 ?_ | refine J_imul dX7_isShown_62 ?_
      refine J_aload_0 dX7_isShown_63 ?_
      refine J_get dX7_isShown_64 fl_X7_22 h0 rfl ?_
      refine J_iload_1 dX7_isShown_67 ?_
      refine J_iald dX7_isShown_68 a3 rfl (by omega) (by omega) ?_
      refine J_topi (b := nI (de D l e 3)) (e3) ?_
      first | refine J_iaddN dX7_isShown_69 ?_ | refine J_iadd dX7_isShown_69 ?_
      refine J_iconst (v := nI 1) dX7_isShown_70 (by decide) ?_
      first | refine J_isubN dX7_isShown_71 (by omega) ?_ | refine J_isub dX7_isShown_71 ?_
      refine J_aload_0 dX7_isShown_72 ?_
      refine J_get dX7_isShown_73 fl_X7_22 h0 rfl ?_
      refine J_iload_1 dX7_isShown_76 ?_
      refine J_iald dX7_isShown_77 a3 rfl (by omega) (by omega) ?_
      refine J_topi (b := nI (de D l e 3)) (e3) ?_
      refine J_idivN dX7_isShown_78 (by omega) (by omega) (by omega) ?_
      first | exact key _ (by omega) (by unfold fal; rw [if_pos z0, if_pos (by omega)]) | exact key _ (by omega) (by unfold fal; by_cases y : f - de D l e 1 = 0; (rw [if_pos y, y, Nat.zero_mul, Nat.zero_add, Nat.div_eq_of_lt (by omega), if_pos (by omega)]); (rw [if_neg y, if_neg z1]))
    · have z0 : f - de D l e 1 = 0 := by have : fl_ (de D l e) = de D l e 1 := by { unfold fl_ fr; rw [c47, Nat.mul_zero, Nat.zero_div]; rfl }; omega
      refine J_iconst (v := nI 0) dX7_isShown_50 (by decide) ?_
      refine J_goto (tgt := 79) dX7_isShown_51 (by decide) ?_
      first | exact key _ (by omega) (by unfold fal; rw [if_pos z0, if_pos (by omega)]) | exact key _ (by omega) (by unfold fal; by_cases y : f - de D l e 1 = 0; (rw [if_pos y, y, Nat.zero_mul, Nat.zero_add, Nat.div_eq_of_lt (by omega), if_pos (by omega)]); (rw [if_neg y, if_neg z1]))
  · have eb : bI (shn (de D l e) r f = true) = 0 := bI_f (fun z => by
      have z := shn_fal.mp z
      refine c1 ⟨z.1, ?_, ?_⟩
      · have := @fr_ge (de D l e) (fal (de D l e) (f - de D l e 1)); omega
      · have := @fr_mono (de D l e) (fal (de D l e) (f - de D l e 1)) (de D l e 2 - 1) (by omega)
        show f ≤ fr (de D l e) (de D l e 2 - 1)
        omega)
    by_cases d1 : de D l e 0 = r
    · by_cases d2 : de D l e 1 ≤ f
      · refine J_aload_0 dX7_isShown_0 ?_
        refine J_get dX7_isShown_1 fl_X7_13 h0 rfl ?_
        refine J_iload_1 dX7_isShown_4 ?_
        refine J_iald dX7_isShown_5 a0 rfl (by omega) (by omega) ?_
        refine J_topi (b := nI (de D l e 0)) (e0) ?_
        refine J_iload_2 dX7_isShown_6 ?_
        refine J_icmp_neN (tgt := 29) dX7_isShown_7 (by decide) (by omega) (by omega) (fun c => absurd c (by omega)) (fun _ => ?_)
        refine J_iload_3 dX7_isShown_10 ?_
        refine J_aload_0 dX7_isShown_11 ?_
        refine J_get dX7_isShown_12 fl_X7_16 h0 rfl ?_
        refine J_iload_1 dX7_isShown_15 ?_
        refine J_iald dX7_isShown_16 a1 rfl (by omega) (by omega) ?_
        refine J_topi (b := nI (de D l e 1)) (e1) ?_
        refine J_icmp_ltN (tgt := 29) dX7_isShown_17 (by decide) (by omega) (by omega) (fun c => absurd c (by omega)) (fun _ => ?_)
        refine J_iload_3 dX7_isShown_20 ?_
        refine J_aload_0 dX7_isShown_21 ?_
        refine J_iload_1 dX7_isShown_22 ?_
        refine J_cV1i dX7_isShown_23 jmX7_lastOf mv_X7_114 h0 rfl (Nat.le_of_ble_eq_true rfl) (by decide) (m_lastOf p hl he) ?_
        refine J_icmp_leN (tgt := 31) dX7_isShown_26 (by decide) (by omega) (by omega) (fun c => absurd c (by omega)) (fun _ => ?_)
        refine J_iconst (v := nI 0) dX7_isShown_29 (by decide) ?_
        exact J_zret dX7_isShown_30 rfl (by first | exact Or.inl rfl | exact Or.inr rfl | exact bI_01 _) (⟨by rw [eb]; rfl, rfl⟩)
      · refine J_aload_0 dX7_isShown_0 ?_
        refine J_get dX7_isShown_1 fl_X7_13 h0 rfl ?_
        refine J_iload_1 dX7_isShown_4 ?_
        refine J_iald dX7_isShown_5 a0 rfl (by omega) (by omega) ?_
        refine J_topi (b := nI (de D l e 0)) (e0) ?_
        refine J_iload_2 dX7_isShown_6 ?_
        refine J_icmp_neN (tgt := 29) dX7_isShown_7 (by decide) (by omega) (by omega) (fun c => absurd c (by omega)) (fun _ => ?_)
        refine J_iload_3 dX7_isShown_10 ?_
        refine J_aload_0 dX7_isShown_11 ?_
        refine J_get dX7_isShown_12 fl_X7_16 h0 rfl ?_
        refine J_iload_1 dX7_isShown_15 ?_
        refine J_iald dX7_isShown_16 a1 rfl (by omega) (by omega) ?_
        refine J_topi (b := nI (de D l e 1)) (e1) ?_
        refine J_icmp_ltN (tgt := 29) dX7_isShown_17 (by decide) (by omega) (by omega) (fun _ => ?_) (fun c => absurd c (by omega))
        refine J_iconst (v := nI 0) dX7_isShown_29 (by decide) ?_
        exact J_zret dX7_isShown_30 rfl (by first | exact Or.inl rfl | exact Or.inr rfl | exact bI_01 _) (⟨by rw [eb]; rfl, rfl⟩)
    · refine J_aload_0 dX7_isShown_0 ?_
      refine J_get dX7_isShown_1 fl_X7_13 h0 rfl ?_
      refine J_iload_1 dX7_isShown_4 ?_
      refine J_iald dX7_isShown_5 a0 rfl (by omega) (by omega) ?_
      refine J_topi (b := nI (de D l e 0)) (e0) ?_
      refine J_iload_2 dX7_isShown_6 ?_
      refine J_icmp_neN (tgt := 29) dX7_isShown_7 (by decide) (by omega) (by omega) (fun _ => ?_) (fun c => absurd c (by omega))
      refine J_iconst (v := nI 0) dX7_isShown_29 (by decide) ?_
      exact J_zret dX7_isShown_30 rfl (by first | exact Or.inl rfl | exact Or.inr rfl | exact bI_01 _) (⟨by rw [eb]; rfl, rfl⟩)
end
