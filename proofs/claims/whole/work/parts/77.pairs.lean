/-! BOTH: what the class answers at a call the reference answers too, and both stand for one state again -/
def PR (M1 M2 : jMI) (d1 d2 : Nat) (As : List Value) (D : DS) : Prop := ∃ (v : Int32) (D' : DS), (∀ (X : Cx) (h : HF), DeskAt h D → Ct X M1 d1 (.ref 0 :: As) h (fun r h' => r = some (.int v) ∧ DeskAt h' D' ∧ offB h h' 0 51)) ∧ ∀ (X : Cx) (h : HF), moAt h D → Ct X M2 d2 (.ref 51 :: As) h (fun r h' => r = some (.int v) ∧ moAt h' D' ∧ offB h h' 51 71)
theorem no_ix {v : Int32} {n : Nat} (hn : n < 2 ^ 31) (hv : ¬ (0 ≤ v ∧ v < nI n)) : ¬ ∃ j, j < n ∧ v = nI j := by
  rintro ⟨j, hj, rfl⟩
  exact hv ⟨nI_pos' (by omega), (nI_ltI (by omega) hn).mpr hj⟩
theorem DeskAt.dok {h : HF} {D : DS} (p : DeskAt h D) : dok D := by
  obtain ⟨ca, xs, p⟩ := p
  exact p.2.2.2.2.2.2.2.2.2.2.2.2.2
section
variable {M1 M2 : jMI} {d1 d2 : Nat} {As : List Value} {D D' : DS} {v : Int32}
theorem PR_u (a : ∀ (X : Cx) (h : HF) (ca : Nat → Nat) (xs : Nat → Nat → Nat → Nat), dkAt h D ca xs → Ct X M1 d1 (.ref 0 :: As) h (fun r h' => r = some (.int v) ∧ DeskAt h' D' ∧ offB h h' 0 51)) (b : ∀ (X : Cx) (h : HF) (tb : Int32) (F : Nat → Nat → Int32), mdAt h D tb F → Ct X M2 d2 (.ref 51 :: As) h (fun r h' => r = some (.int v) ∧ moAt h' D' ∧ offB h h' 51 71)) : PR M1 M2 d1 d2 As D := by
  refine ⟨v, D', fun X h p => ?_, fun X h p => ?_⟩
  · obtain ⟨ca, xs, p⟩ := p
    exact a X h ca xs p
  · obtain ⟨tb, F, p⟩ := p
    exact b X h tb F p
theorem PR_q (a : ∀ (X : Cx) (h : HF) (ca : Nat → Nat) (xs : Nat → Nat → Nat → Nat), dkAt h D ca xs → Ct X M1 d1 (.ref 0 :: As) h (fun r h' => r = some (.int v) ∧ dkAt h' D ca xs ∧ offB h h' 0 51)) (b : ∀ (X : Cx) (h : HF) (tb : Int32) (F : Nat → Nat → Int32), mdAt h D tb F → Ct X M2 d2 (.ref 51 :: As) h (fun r h' => r = some (.int v) ∧ moAt h' D ∧ offB h h' 51 71)) : PR M1 M2 d1 d2 As D :=
  PR_u (fun X h ca xs p => (a X h ca xs p).mono (fun r h' q => ⟨q.1, ⟨ca, xs, q.2.1⟩, q.2.2⟩)) b
theorem PR_i (a : ∀ (X : Cx) (h : HF) (ca : Nat → Nat) (xs : Nat → Nat → Nat → Nat), dkAt h D ca xs → CtI X M1 d1 (.ref 0 :: As) h v) (b : ∀ (X : Cx) (h : HF) (tb : Int32) (F : Nat → Nat → Int32), mdAt h D tb F → CtI X M2 d2 (.ref 51 :: As) h v) : PR M1 M2 d1 d2 As D := by
  refine PR_q (v := v) (fun X h ca xs p => (a X h ca xs p).mono (fun r h' q => ?_)) (fun X h tb F p => (b X h tb F p).mono (fun r h' q => ?_))
  · obtain ⟨rfl, rfl⟩ := q
    exact ⟨rfl, p, offB.rf⟩
  · obtain ⟨rfl, rfl⟩ := q
    exact ⟨rfl, ⟨tb, F, p⟩, offB.rf⟩
end
section
variable {D : DS}
theorem p_edit (ok : dok D) (l r i m u q : Int32) : PR mX6_edit mX7_edit 3 3 [.int l, .int r, .int i, .int m, .int u, .int q] D := by
  rcases ix_cases l 2 (by decide) with ⟨j, hj, rfl⟩ | hl
  · by_cases he : edI r i m u q
    · obtain ⟨y, oky, rfl, rfl, rfl, rfl, rfl⟩ := edI_spec he
      have h8 := ok.2.2.2.2.2.1 j hj
      by_cases hn : dn D j = 8
      · exact PR_i (fun X h ca xs p => c_edit_full p hj he hn) (fun X h tb F p => m_edit_of p hj (m_adds_full p hj he oky hn) (fun r h' z => ⟨_, z.1⟩))
      · exact PR_u (D' := dAdd D j y) (fun X h ca xs p => c_edit_ok p hj he oky (by omega)) (fun X h tb F p => m_edit_of p hj (m_adds_ok p hj he oky (by omega)) (fun r h' z => ⟨_, z.1⟩))
    · exact PR_i (fun X h ca xs p => c_edit_bad (Or.inr he)) (fun X h tb F p => m_edit_of p hj (m_adds_bad he) (fun r h' z => ⟨_, z.1⟩))
  · exact PR_i (fun X h ca xs p => c_edit_bad (Or.inl (no_ix (by decide) hl))) (fun X h tb F p => m_edit_bad1 hl)
theorem p_back (l : Int32) : PR mX6_back mX7_back 1 2 [.int l] D := by
  rcases ix_cases l 2 (by decide) with ⟨j, hj, rfl⟩ | hl
  · by_cases hn : dn D j = 0
    · exact PR_i (fun X h ca xs p => c_back_not p hj hn) (fun X h tb F p => m_back_not p hj hn)
    · exact PR_u (fun X h ca xs p => c_back_ok p hj (by omega)) (fun X h tb F p => m_back_ok p hj (by omega))
  · exact PR_i (fun X h ca xs p => c_back_bad hl) (fun X h tb F p => m_back_bad hl)
theorem pt_spec {u : Nat} (hu : u < 4) {v : Int32} (hp : ptI u v) {x : Nat → Nat} (hx : edOk x) : ∃ j, v = nI j ∧ edOk (kset x (u + 1) j) := by
  have hp : jt1 u ≤ v ∧ v ≤ jt2 u := hp
  unfold edOk at hx
  rcases (show u = 0 ∨ u = 1 ∨ u = 2 ∨ u = 3 by omega) with rfl | rfl | rfl | rfl
  · rw [show jt1 0 = nI 0 by decide, show jt2 0 = nI 199999 by decide] at hp
    obtain ⟨j, a, b, rfl⟩ := rngN (by decide) (by decide) hp
    refine ⟨j, rfl, ?_⟩
    show x 0 < 6 ∧ j < 200000 ∧ 1 ≤ x 2 ∧ x 2 ≤ 500 ∧ x 3 ≤ 6 ∧ 1 ≤ x 4 ∧ x 4 ≤ 6
    omega
  · rw [show jt1 1 = nI 1 by decide, show jt2 1 = nI 500 by decide] at hp
    obtain ⟨j, a, b, rfl⟩ := rngN (by decide) (by decide) hp
    refine ⟨j, rfl, ?_⟩
    show x 0 < 6 ∧ x 1 < 200000 ∧ 1 ≤ j ∧ j ≤ 500 ∧ x 3 ≤ 6 ∧ 1 ≤ x 4 ∧ x 4 ≤ 6
    omega
  · rw [show jt1 2 = nI 0 by decide, show jt2 2 = nI 6 by decide] at hp
    obtain ⟨j, a, b, rfl⟩ := rngN (by decide) (by decide) hp
    refine ⟨j, rfl, ?_⟩
    show x 0 < 6 ∧ x 1 < 200000 ∧ 1 ≤ x 2 ∧ x 2 ≤ 500 ∧ j ≤ 6 ∧ 1 ≤ x 4 ∧ x 4 ≤ 6
    omega
  · rw [show jt1 3 = nI 1 by decide, show jt2 3 = nI 6 by decide] at hp
    obtain ⟨j, a, b, rfl⟩ := rngN (by decide) (by decide) hp
    refine ⟨j, rfl, ?_⟩
    show x 0 < 6 ∧ x 1 < 200000 ∧ 1 ≤ x 2 ∧ x 2 ≤ 500 ∧ x 3 ≤ 6 ∧ 1 ≤ j ∧ j ≤ 6
    omega
theorem p_trim (ok : dok D) (l e w v : Int32) : PR mX6_trim mX7_trim 2 3 [.int l, .int e, .int w, .int v] D := by
  by_cases hb : ∃ j k u, j < 2 ∧ k < dn D j ∧ u < 4 ∧ l = nI j ∧ e = nI k ∧ w = nI u ∧ ptI u v
  · obtain ⟨j, k, u, hj, hk, hu, rfl, rfl, rfl, hp⟩ := hb
    obtain ⟨t, rfl, oky⟩ := pt_spec hu hp (ok.2.2.2.2.2.2.1 j k hj hk)
    exact PR_u (fun X h ca xs p => c_trim_ok p hj hk hu hp oky) (fun X h tb F p => m_trim_ok p hj hk hu hp oky)
  · exact PR_i (fun X h ca xs p => c_trim_bad p hb) (fun X h tb F p => m_trim_bad p hb)
theorem st_spec {w : Nat} (hw : w < 3) {v : Int32} (h0 : 0 ≤ v) (hv : v ≤ jt0 w) (ok : dok D) : ∃ k, k < 2 ^ 31 ∧ v = nI k ∧ (dst (dSS D w k) 0 < 3 ∧ dst (dSS D w k) 1 ≤ 500 ∧ dst (dSS D w k) 2 ≤ 500) := by
  have o0 : D.2.2.1 0 < 3 := ok.1
  have o1 : D.2.2.1 1 ≤ 500 := ok.2.1
  have o2 : D.2.2.1 2 ≤ 500 := ok.2.2.1
  rcases (show w = 0 ∨ w = 1 ∨ w = 2 by omega) with rfl | rfl | rfl
  · obtain ⟨k, a, b, rfl⟩ := rngN (v := v) (a := 0) (b := 2) (by decide) (by decide) ⟨h0, hv⟩
    exact ⟨k, by omega, rfl, show k < 3 by omega, o1, o2⟩
  · obtain ⟨k, a, b, rfl⟩ := rngN (v := v) (a := 0) (b := 500) (by decide) (by decide) ⟨h0, hv⟩
    exact ⟨k, by omega, rfl, o0, show k ≤ 500 by omega, o2⟩
  · obtain ⟨k, a, b, rfl⟩ := rngN (v := v) (a := 0) (b := 500) (by decide) (by decide) ⟨h0, hv⟩
    exact ⟨k, by omega, rfl, o0, o1, show k ≤ 500 by omega⟩
theorem p_set (ok : dok D) (w v : Int32) : PR mX6_set mX7_set 1 2 [.int w, .int v] D := by
  by_cases hb : ∃ j, j < 3 ∧ w = nI j ∧ 0 ≤ v ∧ v ≤ jt0 j
  · obtain ⟨j, hj, rfl, h0, hv⟩ := hb
    obtain ⟨k, hk, rfl, h3⟩ := st_spec hj h0 hv ok
    exact PR_u (fun X h ca xs p => c_set_ok p hj hk hv h3) (fun X h tb F p => m_set_ok p hj hk hv h3)
  · exact PR_i (fun X h ca xs p => c_set_bad hb) (fun X h tb F p => m_set_bad hb)
theorem p_reel (w v : Int32) : PR mX6_reel mX7_reel 1 2 [.int w, .int v] D := by
  by_cases hb : ∃ j, j < 6 ∧ w = nI j ∧ nI 1 ≤ v ∧ v ≤ nI 200000
  · obtain ⟨j, hj, rfl, hv⟩ := hb
    obtain ⟨k, a, b, rfl⟩ := rngN (by decide) (by decide) hv
    exact PR_u (fun X h ca xs p => c_reel_ok p hj ⟨a, b⟩) (fun X h tb F p => m_reel_ok p hj ⟨a, b⟩)
  · exact PR_i (fun X h ca xs p => c_reel_bad hb) (fun X h tb F p => m_reel_bad hb)
theorem p_swap : PR mX6_swap mX7_swap 0 1 [] D := PR_u (fun X h ca xs p => c_swap p) (fun X h tb F p => m_swap p)
theorem p_read (l s : Int32) : PR mX6_read mX7_read 4 4 [.int l, .int s] D := by
  by_cases hb : (∃ j, j < 2 ∧ l = nI j) ∧ ∃ k, k < 4 ∧ s = nI k
  · obtain ⟨⟨j, hj, rfl⟩, ⟨k, hk, rfl⟩⟩ := hb
    by_cases hq : (dsh D k).1 = true
    · exact PR_u (fun X h ca xs p => c_read_lost p hj hk hq) (fun X h tb F p => m_read_lost p hj hk hq)
    · have hq : (dsh D k).1 = false := by simpa using hq
      exact PR_u (fun X h ca xs p => c_read_ok p hj hk hq) (fun X h tb F p => m_read_ok p hj hk hq)
  · exact PR_i (fun X h ca xs p => c_read_bad hb) (fun X h tb F p => m_read_bad hb)
theorem p_info (l e w : Int32) : PR mX6_info mX7_info 2 3 [.int l, .int e, .int w] D := by
  by_cases hb : ∃ j k u, j < 2 ∧ k < dn D j ∧ u < 8 ∧ l = nI j ∧ e = nI k ∧ w = nI u
  · obtain ⟨j, k, u, hj, hk, hu, rfl, rfl, rfl⟩ := hb
    exact PR_i (fun X h ca xs p => c_info_ok p hj hk hu) (fun X h tb F p => m_info_ok p hj hk hu)
  · exact PR_i (fun X h ca xs p => c_info_bad p hb) (fun X h tb F p => m_info_bad p hb)
theorem p_shows (l f w : Int32) : PR mX6_shows mX7_shows 2 2 [.int l, .int f, .int w] D := by
  by_cases hb : (∃ j, j < 2 ∧ l = nI j) ∧ (∃ k, k < 4000 ∧ f = nI k) ∧ ∃ u, u < 4 ∧ w = nI u
  · obtain ⟨⟨j, hj, rfl⟩, ⟨k, hk, rfl⟩, ⟨u, hu, rfl⟩⟩ := hb
    exact PR_i (fun X h ca xs p => c_shows_ok p hj hk hu) (fun X h tb F p => m_shows_ok p hj hk hu)
  · exact PR_i (fun X h ca xs p => c_shows_bad hb) (fun X h tb F p => m_shows_bad hb)
theorem p_seen (l r f w : Int32) : PR mX6_seen mX7_seen 3 2 [.int l, .int r, .int f, .int w] D := by
  by_cases hb : (∃ j, j < 2 ∧ l = nI j) ∧ (∃ k, k < 6 ∧ r = nI k) ∧ (∃ k, k < 300000 ∧ f = nI k) ∧ ∃ u, u < 2 ∧ w = nI u
  · obtain ⟨⟨j, hj, rfl⟩, ⟨i, hi, rfl⟩, ⟨k, hk, rfl⟩, ⟨u, hu, rfl⟩⟩ := hb
    exact PR_i (fun X h ca xs p => c_seen_ok p hj hi hk hu) (fun X h tb F p => m_seen_ok p hj hi hk hu)
  · exact PR_i (fun X h ca xs p => c_seen_bad hb) (fun X h tb F p => m_seen_bad hb)
theorem p_still (l e w : Int32) : PR mX6_still mX7_still 4 3 [.int l, .int e, .int w] D := by
  by_cases hb : ∃ j k u, j < 2 ∧ k < dn D j ∧ u < 2 ∧ l = nI j ∧ e = nI k ∧ w = nI u
  · obtain ⟨j, k, u, hj, hk, hu, rfl, rfl, rfl⟩ := hb
    exact PR_i (fun X h ca xs p => c_still_ok p hj hk hu) (fun X h tb F p => m_still_ok p hj hk hu)
  · exact PR_i (fun X h ca xs p => c_still_bad p hb) (fun X h tb F p => m_still_bad p hb)
theorem p_told (f w : Int32) : PR mX6_told mX7_told 2 2 [.int f, .int w] D := by
  by_cases hb : (∃ k, k < 10000000 ∧ f = nI k) ∧ ∃ u, u < 4 ∧ w = nI u
  · obtain ⟨⟨k, hk, rfl⟩, ⟨u, hu, rfl⟩⟩ := hb
    exact PR_i (fun X h ca xs p => c_told_ok p hk hu) (fun X h tb F p => m_told_ok p hk hu)
  · exact PR_i (fun X h ca xs p => c_told_bad hb) (fun X h tb F p => m_told_bad hb)
theorem p_number (a b c d : Int32) : PR mX6_number mX7_number 2 2 [.int a, .int b, .int c, .int d] D := by
  by_cases hb : (∃ k, k < 100 ∧ a = nI k) ∧ (∃ k, k < 60 ∧ b = nI k) ∧ (∃ k, k < 60 ∧ c = nI k) ∧ ∃ k, k < rt (dst D 0) ∧ d = nI k
  · obtain ⟨⟨a, ha, rfl⟩, ⟨b, hb, rfl⟩, ⟨c, hc, rfl⟩, ⟨d, hd, rfl⟩⟩ := hb
    exact PR_i (fun X h ca xs p => c_number_ok p ha hb hc hd) (fun X h tb F p => m_number_ok p ha hb hc hd)
  · exact PR_i (fun X h ca xs p => c_number_bad p hb) (fun X h tb F p => m_number_bad p hb)
theorem p_pulls (l : Int32) : PR mX6_pulls mX7_pulls 3 4 [.int l] D := by
  rcases ix_cases l 2 (by decide) with ⟨j, hj, rfl⟩ | hl
  · exact PR_q (fun X h ca xs p => c_pulls_ok p hj) (fun X h tb F p => m_pulls_ok p hj)
  · exact PR_i (fun X h ca xs p => c_pulls_bad hl) (fun X h tb F p => m_pulls_bad hl)
theorem p_pull (l i w : Int32) : PR mX6_pull mX7_pull 3 5 [.int l, .int i, .int w] D := by
  by_cases hb : (∃ j, j < 2 ∧ l = nI j) ∧ (∃ k, k < 8 ∧ i = nI k) ∧ ∃ u, u < 5 ∧ w = nI u
  · obtain ⟨⟨j, hj, rfl⟩, ⟨k, hk, rfl⟩, ⟨u, hu, rfl⟩⟩ := hb
    exact PR_q (fun X h ca xs p => c_pull_ok p hj hk hu) (fun X h tb F p => m_pull_ok p hj hk hu)
  · exact PR_i (fun X h ca xs p => c_pull_bad hb) (fun X h tb F p => m_pull_bad hb)
theorem p_waste (l : Int32) : PR mX6_waste mX7_waste 4 5 [.int l] D := by
  rcases ix_cases l 2 (by decide) with ⟨j, hj, rfl⟩ | hl
  · exact PR_q (fun X h ca xs p => c_waste_ok p hj) (fun X h tb F p => m_waste_ok p hj)
  · exact PR_i (fun X h ca xs p => c_waste_bad hl) (fun X h tb F p => m_waste_bad hl)
theorem p_total (l w : Int32) : PR mX6_total mX7_total 4 4 [.int l, .int w] D := by
  by_cases hb : (∃ j, j < 2 ∧ l = nI j) ∧ ∃ u, u < 3 ∧ w = nI u
  · obtain ⟨⟨j, hj, rfl⟩, ⟨u, hu, rfl⟩⟩ := hb
    exact PR_q (fun X h ca xs p => c_total_ok p hj hu) (fun X h tb F p => m_total_ok p hj hu)
  · exact PR_i (fun X h ca xs p => c_total_bad hb) (fun X h tb F p => m_total_bad hb)
theorem p_compare (e w : Int32) : PR mX6_compare mX7_compare 4 3 [.int e, .int w] D := by
  by_cases hb : ∃ k u, k < dn D 1 ∧ u < 3 ∧ e = nI k ∧ w = nI u
  · obtain ⟨k, u, hk, hu, rfl, rfl⟩ := hb
    exact PR_q (fun X h ca xs p => c_cmp_ok p hk hu) (fun X h tb F p => m_cmp_ok p hk hu)
  · exact PR_i (fun X h ca xs p => c_cmp_bad p hb) (fun X h tb F p => m_cmp_bad p hb)
theorem p_gone : PR mX6_gone mX7_gone 4 3 [] D := PR_q (fun X h ca xs p => c_gone p) (fun X h tb F p => m_gone p)
theorem p_anew (i : Int32) : PR mX6_anew mX7_anew 4 4 [.int i] D := by
  by_cases hi : i = -1
  · subst hi
    exact PR_q (fun X h ca xs p => c_anew_n p) (fun X h tb F p => m_anew_n p)
  · rcases ix_cases i 10000 (by decide) with ⟨j, hj, rfl⟩ | hl
    · exact PR_q (fun X h ca xs p => c_anew_i p hj) (fun X h tb F p => m_anew_i p hj)
    · exact PR_i (fun X h ca xs p => c_anew_bad hi hl) (fun X h tb F p => m_anew_bad hi hl)
theorem p_saving (w : Int32) : PR mX6_saving mX7_saving 3 4 [.int w] D := by
  rcases ix_cases w 2 (by decide) with ⟨j, hj, rfl⟩ | hl
  · exact PR_q (fun X h ca xs p => c_sav_ok p hj) (fun X h tb F p => m_sav_ok p hj)
  · exact PR_i (fun X h ca xs p => c_sav_bad hl) (fun X h tb F p => m_sav_bad hl)
theorem p_sheet (s f m : Int32) : PR mX6_sheet mX7_sheet 2 2 [.int s, .int f, .int m] D := by
  by_cases hb : (∃ k, k < 4 ∧ s = nI k) ∧ (∃ u, u < 3 ∧ f = nI u) ∧ m ≤ nI 60
  · obtain ⟨⟨k, hk, rfl⟩, ⟨u, hu, rfl⟩, hm⟩ := hb
    by_cases h0 : m < 0
    · exact PR_u (fun X h ca xs p => c_sheet_size p hk hu h0) (fun X h tb F p => m_sheet_size p hk hu h0)
    · obtain ⟨t, ht, rfl⟩ := nI_of h0
      have ht6 : t ≤ 60 := (nI_leI ht (by decide)).mp hm
      exact PR_u (fun X h ca xs p => c_sheet_ok p hk hu ht6) (fun X h tb F p => m_sheet_ok p hk hu ht6)
  · exact PR_i (fun X h ca xs p => c_sheet_bad hb) (fun X h tb F p => m_sheet_bad hb)
theorem p_lose (s : Int32) : PR mX6_lose mX7_lose 1 2 [.int s] D := by
  rcases ix_cases s 4 (by decide) with ⟨k, hk, rfl⟩ | hl
  · by_cases hq : (dsh D k).1 = true
    · exact PR_u (fun X h ca xs p => c_lose_null p hk hq) (fun X h tb F p => m_lose_null p hk hq)
    · have hq : (dsh D k).1 = false := by simpa using hq
      exact PR_u (fun X h ca xs p => c_lose_ok p hk hq) (fun X h tb F p => m_lose_ok p hk hq)
  · exact PR_i (fun X h ca xs p => c_lose_bad hl) (fun X h tb F p => m_lose_bad hl)
theorem sF0 {s f : Nat} {i : Int32} (ok : dok D) (hs : s < 4) (h : sFault D s f i = 0) : ∃ j, j < (dsh D s).2.2.1 ∧ i = nI j := by
  have h60 := (ok.2.2.2.2.2.2.2 s hs).2
  unfold sFault shFault at h
  split at h
  · cases h
  · split at h
    · cases h
    · split at h
      · rename_i z
        rcases ix_cases i (dsh D s).2.2.1 (by omega) with y | y
        · exact y
        · exact absurd z y
      · cases h
theorem p_put (ok : dok D) (s f i v : Int32) : PR mX6_put mX7_put 2 2 [.int s, .int f, .int i, .int v] D := by
  by_cases hb : (∃ k, k < 4 ∧ s = nI k) ∧ ∃ u, u < 3 ∧ f = nI u
  · obtain ⟨⟨k, hk, rfl⟩, ⟨u, hu, rfl⟩⟩ := hb
    by_cases hq : sFault D k u i = 0
    · obtain ⟨j, hj, rfl⟩ := sF0 ok hk hq
      exact PR_u (fun X h ca xs p => c_put_ok p hk hu hq hj) (fun X h tb F p => m_put_ok p hk hu hq hj)
    · exact PR_u (fun X h ca xs p => c_put_f p hk hu (by omega)) (fun X h tb F p => m_put_f p hk hu (by omega))
  · exact PR_i (fun X h ca xs p => c_put_bad hb) (fun X h tb F p => m_put_bad hb)
theorem p_get (ok : dok D) (s f i : Int32) : PR mX6_get mX7_get 2 2 [.int s, .int f, .int i] D := by
  by_cases hb : (∃ k, k < 4 ∧ s = nI k) ∧ ∃ u, u < 3 ∧ f = nI u
  · obtain ⟨⟨k, hk, rfl⟩, ⟨u, hu, rfl⟩⟩ := hb
    by_cases hq : sFault D k u i = 0
    · obtain ⟨j, hj, rfl⟩ := sF0 ok hk hq
      exact PR_i (fun X h ca xs p => c_get_ok p hk hu hq hj) (fun X h tb F p => m_get_ok p hk hu hq hj)
    · exact PR_u (fun X h ca xs p => c_get_f p hk hu (by omega)) (fun X h tb F p => m_get_f p hk hu (by omega))
  · exact PR_i (fun X h ca xs p => c_get_bad hb) (fun X h tb F p => m_get_bad hb)
theorem p_copy (ok : dok D) (s i t j m : Int32) : PR mX6_copy mX7_copy 1 2 [.int s, .int i, .int t, .int j, .int m] D := by
  by_cases hb : (∃ k, k < 4 ∧ s = nI k) ∧ ∃ u, u < 4 ∧ t = nI u
  · obtain ⟨⟨s, hs, rfl⟩, ⟨t, ht, rfl⟩⟩ := hb
    have os := (ok.2.2.2.2.2.2.2 s hs).2
    have ot := (ok.2.2.2.2.2.2.2 t ht).2
    by_cases l0 : (dsh D s).1 = true ∨ (dsh D t).1 = true
    · exact PR_u (fun X h ca xs p => c_copy_f (q := 1) p hs ht (Or.inl ⟨rfl, l0⟩)) (fun X h tb F p => m_copy_f (q := 1) p hs ht (Or.inl ⟨rfl, l0⟩))
    · have l1 : (dsh D s).1 = false := by
        cases z : (dsh D s).1 with
        | false => rfl
        | true => exact absurd (Or.inl z) l0
      have l2 : (dsh D t).1 = false := by
        cases z : (dsh D t).1 with
        | false => rfl
        | true => exact absurd (Or.inr z) l0
      by_cases hf : (dsh D s).2.1 = (dsh D t).2.1
      · by_cases h1 : ∃ a b, i = nI a ∧ m = nI b ∧ a + b ≤ (dsh D s).2.2.1
        · by_cases h2 : ∃ a b, j = nI a ∧ m = nI b ∧ a + b ≤ (dsh D t).2.2.1
          · obtain ⟨a, b, rfl, rfl, h1⟩ := h1
            obtain ⟨a', b', rfl, e, h2⟩ := h2
            have e : b = b' := (nI_eq (by omega) (by omega)).mp e
            subst e
            exact PR_u (fun X h ca xs p => c_copy_ok p hs ht l1 l2 hf h1 h2) (fun X h tb F p => m_copy_ok p hs ht l1 l2 hf h1 h2)
          · exact PR_u (fun X h ca xs p => c_copy_f (q := 2) p hs ht (Or.inr ⟨l1, l2, Or.inr ⟨rfl, hf, Or.inr h2⟩⟩)) (fun X h tb F p => m_copy_f (q := 2) p hs ht (Or.inr ⟨l1, l2, Or.inr ⟨rfl, hf, Or.inr h2⟩⟩))
        · exact PR_u (fun X h ca xs p => c_copy_f (q := 2) p hs ht (Or.inr ⟨l1, l2, Or.inr ⟨rfl, hf, Or.inl h1⟩⟩)) (fun X h tb F p => m_copy_f (q := 2) p hs ht (Or.inr ⟨l1, l2, Or.inr ⟨rfl, hf, Or.inl h1⟩⟩))
      · exact PR_u (fun X h ca xs p => c_copy_f (q := 4) p hs ht (Or.inr ⟨l1, l2, Or.inl ⟨rfl, hf⟩⟩)) (fun X h tb F p => m_copy_f (q := 4) p hs ht (Or.inr ⟨l1, l2, Or.inl ⟨rfl, hf⟩⟩))
  · exact PR_i (fun X h ca xs p => c_copy_bad hb) (fun X h tb F p => m_copy_bad hb)
theorem p_write (l s : Int32) : PR mX6_write mX7_write 3 4 [.int l, .int s] D := by
  by_cases hb : (∃ j, j < 2 ∧ l = nI j) ∧ ∃ k, k < 4 ∧ s = nI k
  · obtain ⟨⟨j, hj, rfl⟩, ⟨k, hk, rfl⟩⟩ := hb
    by_cases hq : (dsh D k).1 = true
    · exact PR_u (fun X h ca xs p => c_write_null p hj hk hq) (fun X h tb F p => m_write_null p hj hk hq)
    · have hq : (dsh D k).1 = false := by simpa using hq
      exact PR_u (fun X h ca xs p => c_write_ok p hj hk hq) (fun X h tb F p => m_write_ok p hj hk hq)
  · exact PR_i (fun X h ca xs p => c_write_bad hb) (fun X h tb F p => m_write_bad hb)
theorem p_count (w : Int32) : PR mX6_count mX7_count 5 4 [.int w] D := by
  rcases ix_cases w 9 (by decide) with ⟨j, hj, rfl⟩ | hl
  · exact PR_q (fun X h ca xs p => c_count_ok p hj) (fun X h tb F p => m_count_ok p hj)
  · exact PR_i (fun X h ca xs p => c_count_bad hl) (fun X h tb F p => m_count_bad hl)
end
