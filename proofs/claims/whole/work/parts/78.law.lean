/-! THE LAW: its loop -/
def lawQ : Option Value → HF → Prop := fun r _ => r = some (.int 1)
theorem lg_self (x : Int64) : lg_cmp x x = 0 := (lg_cmp_eq x x).mpr rfl
theorem nI_7 (i : Nat) : nI i + Int32.ofInt 7 = nI (i + 7) := by
  rw [show Int32.ofInt 7 = nI 7 by decide]
  exact nI_add i 7
theorem lt7 {L i : Nat} (h : ¬ 7 ≤ L) (hi : i < 2 ^ 31) : nI L - nI 7 < nI i := by
  have h0 : nI L - nI 7 < 0 := by
    rcases (show L = 0 ∨ L = 1 ∨ L = 2 ∨ L = 3 ∨ L = 4 ∨ L = 5 ∨ L = 6 by omega) with rfl | rfl | rfl | rfl | rfl | rfl | rfl <;> decide
  exact Int32.lt_of_lt_of_le h0 (nI_pos' hi)
theorem dk_cell {h : HF} {D : DS} (p : DeskAt h D) : ∃ fs, hAt h 0 (oB 5 fs) := by
  obtain ⟨ca, xs, p⟩ := p
  exact ⟨_, p.1⟩
theorem mo_cell {h : HF} {D : DS} (p : moAt h D) : ∃ fs, hAt h 51 (oB 6 fs) := by
  obtain ⟨tb, F, p⟩ := p
  exact ⟨_, p.1⟩
section
variable {X : Cx} {h : HF} {D : DS} {i : Nat}
theorem w_edit (hL : jL X < 2 ^ 31) (hi : i + 7 ≤ jL X) (pd : DeskAt h D) (pm : moAt h D) (nx : ∀ (h' : HF) (D' : DS), DeskAt h' D' → moAt h' D' → J X RL cL_law 4 8 (some .boolean) lawQ 1204 [some (.ref 2000), some (.ref 0), some (.ref 51), some (.int (nI i))] [] h') : J X RL cL_law 4 8 (some .boolean) lawQ 164 [some (.ref 2000), some (.ref 0), some (.ref 51), some (.int (nI i))] [] h := by
  obtain ⟨v, D1, q1, q2⟩ := p_edit (D := D) pd.dok (jx X (i + 1)) (jx X (i + 2)) (jx X (i + 3)) (jx X (i + 4)) (jx X (i + 5)) (jx X (i + 6))
  obtain ⟨fs0, hc0⟩ := dk_cell pd
  refine J_aload_1 dL_law_164 ?_
  refine J_aload_0 dL_law_165 ?_
  refine J_iload_3 dL_law_166 ?_
  refine J_iconst (v := nI 1) dL_law_167 (by decide) ?_
  first | refine J_iaddN dL_law_168 ?_ | refine J_iadd dL_law_168 ?_
  refine J_sld dL_law_169 rfl (by omega) (by omega) ?_
  refine J_aload_0 dL_law_170 ?_
  refine J_iload_3 dL_law_171 ?_
  refine J_iconst (v := nI 2) dL_law_172 (by decide) ?_
  first | refine J_iaddN dL_law_173 ?_ | refine J_iadd dL_law_173 ?_
  refine J_sld dL_law_174 rfl (by omega) (by omega) ?_
  refine J_aload_0 dL_law_175 ?_
  refine J_iload_3 dL_law_176 ?_
  refine J_iconst (v := nI 3) dL_law_177 (by decide) ?_
  first | refine J_iaddN dL_law_178 ?_ | refine J_iadd dL_law_178 ?_
  refine J_sld dL_law_179 rfl (by omega) (by omega) ?_
  refine J_aload_0 dL_law_180 ?_
  refine J_iload_3 dL_law_181 ?_
  refine J_iconst (v := nI 4) dL_law_182 (by decide) ?_
  first | refine J_iaddN dL_law_183 ?_ | refine J_iadd dL_law_183 ?_
  refine J_sld dL_law_184 rfl (by omega) (by omega) ?_
  refine J_aload_0 dL_law_185 ?_
  refine J_iload_3 dL_law_186 ?_
  refine J_iconst (v := nI 5) dL_law_187 (by decide) ?_
  first | refine J_iaddN dL_law_188 ?_ | refine J_iadd dL_law_188 ?_
  refine J_sld dL_law_189 rfl (by omega) (by omega) ?_
  refine J_aload_0 dL_law_190 ?_
  refine J_iload_3 dL_law_191 ?_
  refine J_bipush (v := nI 6) dL_law_192 (by decide) ?_
  first | refine J_iaddN dL_law_194 ?_ | refine J_iadd dL_law_194 ?_
  refine J_sld dL_law_195 rfl (by omega) (by omega) ?_
  refine J_cV6 dL_law_196 jmX6_edit mv_L_13 hc0 rfl (Nat.le_of_ble_eq_true rfl) (by decide) (q1 X h pd) (fun r h' q => ?_)
  obtain ⟨rfl, pd1, o1⟩ := q
  have pm1 := pm.off (fun b lo hi => o1 b (Or.inr lo))
  obtain ⟨fs1, hm1⟩ := mo_cell pm1
  refine J_aload_2 dL_law_199 ?_
  refine J_aload_0 dL_law_200 ?_
  refine J_iload_3 dL_law_201 ?_
  refine J_iconst (v := nI 1) dL_law_202 (by decide) ?_
  first | refine J_iaddN dL_law_203 ?_ | refine J_iadd dL_law_203 ?_
  refine J_sld dL_law_204 rfl (by omega) (by omega) ?_
  refine J_aload_0 dL_law_205 ?_
  refine J_iload_3 dL_law_206 ?_
  refine J_iconst (v := nI 2) dL_law_207 (by decide) ?_
  first | refine J_iaddN dL_law_208 ?_ | refine J_iadd dL_law_208 ?_
  refine J_sld dL_law_209 rfl (by omega) (by omega) ?_
  refine J_aload_0 dL_law_210 ?_
  refine J_iload_3 dL_law_211 ?_
  refine J_iconst (v := nI 3) dL_law_212 (by decide) ?_
  first | refine J_iaddN dL_law_213 ?_ | refine J_iadd dL_law_213 ?_
  refine J_sld dL_law_214 rfl (by omega) (by omega) ?_
  refine J_aload_0 dL_law_215 ?_
  refine J_iload_3 dL_law_216 ?_
  refine J_iconst (v := nI 4) dL_law_217 (by decide) ?_
  first | refine J_iaddN dL_law_218 ?_ | refine J_iadd dL_law_218 ?_
  refine J_sld dL_law_219 rfl (by omega) (by omega) ?_
  refine J_aload_0 dL_law_220 ?_
  refine J_iload_3 dL_law_221 ?_
  refine J_iconst (v := nI 5) dL_law_222 (by decide) ?_
  first | refine J_iaddN dL_law_223 ?_ | refine J_iadd dL_law_223 ?_
  refine J_sld dL_law_224 rfl (by omega) (by omega) ?_
  refine J_aload_0 dL_law_225 ?_
  refine J_iload_3 dL_law_226 ?_
  refine J_bipush (v := nI 6) dL_law_227 (by decide) ?_
  first | refine J_iaddN dL_law_229 ?_ | refine J_iadd dL_law_229 ?_
  refine J_sld dL_law_230 rfl (by omega) (by omega) ?_
  refine J_cV6 dL_law_231 jmX7_edit mv_L_17 hm1 rfl (Nat.le_of_ble_eq_true rfl) (by decide) (q2 X _ pm1) (fun r h' q => ?_)
  obtain ⟨rfl, pm2, o2⟩ := q
  refine J_icmp_eq (tgt := 1204) dL_law_234 (by decide) (fun _ => ?_) (fun c => absurd rfl c)
  exact nx _ _ (pd1.off (fun b hb => o2 b (Or.inl hb))) pm2
theorem w_back (hL : jL X < 2 ^ 31) (hi : i + 7 ≤ jL X) (pd : DeskAt h D) (pm : moAt h D) (nx : ∀ (h' : HF) (D' : DS), DeskAt h' D' → moAt h' D' → J X RL cL_law 4 8 (some .boolean) lawQ 1204 [some (.ref 2000), some (.ref 0), some (.ref 51), some (.int (nI i))] [] h') : J X RL cL_law 4 8 (some .boolean) lawQ 239 [some (.ref 2000), some (.ref 0), some (.ref 51), some (.int (nI i))] [] h := by
  obtain ⟨v, D1, q1, q2⟩ := p_back (D := D) (jx X (i + 1))
  obtain ⟨fs0, hc0⟩ := dk_cell pd
  refine J_aload_1 dL_law_239 ?_
  refine J_aload_0 dL_law_240 ?_
  refine J_iload_3 dL_law_241 ?_
  refine J_iconst (v := nI 1) dL_law_242 (by decide) ?_
  first | refine J_iaddN dL_law_243 ?_ | refine J_iadd dL_law_243 ?_
  refine J_sld dL_law_244 rfl (by omega) (by omega) ?_
  refine J_cV1 dL_law_245 jmX6_back mv_L_18 hc0 rfl (Nat.le_of_ble_eq_true rfl) (by decide) (q1 X h pd) (fun r h' q => ?_)
  obtain ⟨rfl, pd1, o1⟩ := q
  have pm1 := pm.off (fun b lo hi => o1 b (Or.inr lo))
  obtain ⟨fs1, hm1⟩ := mo_cell pm1
  refine J_aload_2 dL_law_248 ?_
  refine J_aload_0 dL_law_249 ?_
  refine J_iload_3 dL_law_250 ?_
  refine J_iconst (v := nI 1) dL_law_251 (by decide) ?_
  first | refine J_iaddN dL_law_252 ?_ | refine J_iadd dL_law_252 ?_
  refine J_sld dL_law_253 rfl (by omega) (by omega) ?_
  refine J_cV1 dL_law_254 jmX7_back mv_L_22 hm1 rfl (Nat.le_of_ble_eq_true rfl) (by decide) (q2 X _ pm1) (fun r h' q => ?_)
  obtain ⟨rfl, pm2, o2⟩ := q
  refine J_icmp_eq (tgt := 1204) dL_law_257 (by decide) (fun _ => ?_) (fun c => absurd rfl c)
  exact nx _ _ (pd1.off (fun b hb => o2 b (Or.inl hb))) pm2
theorem w_trim (hL : jL X < 2 ^ 31) (hi : i + 7 ≤ jL X) (pd : DeskAt h D) (pm : moAt h D) (nx : ∀ (h' : HF) (D' : DS), DeskAt h' D' → moAt h' D' → J X RL cL_law 4 8 (some .boolean) lawQ 1204 [some (.ref 2000), some (.ref 0), some (.ref 51), some (.int (nI i))] [] h') : J X RL cL_law 4 8 (some .boolean) lawQ 262 [some (.ref 2000), some (.ref 0), some (.ref 51), some (.int (nI i))] [] h := by
  obtain ⟨v, D1, q1, q2⟩ := p_trim (D := D) pd.dok (jx X (i + 1)) (jx X (i + 2)) (jx X (i + 3)) (jx X (i + 4))
  obtain ⟨fs0, hc0⟩ := dk_cell pd
  refine J_aload_1 dL_law_262 ?_
  refine J_aload_0 dL_law_263 ?_
  refine J_iload_3 dL_law_264 ?_
  refine J_iconst (v := nI 1) dL_law_265 (by decide) ?_
  first | refine J_iaddN dL_law_266 ?_ | refine J_iadd dL_law_266 ?_
  refine J_sld dL_law_267 rfl (by omega) (by omega) ?_
  refine J_aload_0 dL_law_268 ?_
  refine J_iload_3 dL_law_269 ?_
  refine J_iconst (v := nI 2) dL_law_270 (by decide) ?_
  first | refine J_iaddN dL_law_271 ?_ | refine J_iadd dL_law_271 ?_
  refine J_sld dL_law_272 rfl (by omega) (by omega) ?_
  refine J_aload_0 dL_law_273 ?_
  refine J_iload_3 dL_law_274 ?_
  refine J_iconst (v := nI 3) dL_law_275 (by decide) ?_
  first | refine J_iaddN dL_law_276 ?_ | refine J_iadd dL_law_276 ?_
  refine J_sld dL_law_277 rfl (by omega) (by omega) ?_
  refine J_aload_0 dL_law_278 ?_
  refine J_iload_3 dL_law_279 ?_
  refine J_iconst (v := nI 4) dL_law_280 (by decide) ?_
  first | refine J_iaddN dL_law_281 ?_ | refine J_iadd dL_law_281 ?_
  refine J_sld dL_law_282 rfl (by omega) (by omega) ?_
  refine J_cV4 dL_law_283 jmX6_trim mv_L_23 hc0 rfl (Nat.le_of_ble_eq_true rfl) (by decide) (q1 X h pd) (fun r h' q => ?_)
  obtain ⟨rfl, pd1, o1⟩ := q
  have pm1 := pm.off (fun b lo hi => o1 b (Or.inr lo))
  obtain ⟨fs1, hm1⟩ := mo_cell pm1
  refine J_aload_2 dL_law_286 ?_
  refine J_aload_0 dL_law_287 ?_
  refine J_iload_3 dL_law_288 ?_
  refine J_iconst (v := nI 1) dL_law_289 (by decide) ?_
  first | refine J_iaddN dL_law_290 ?_ | refine J_iadd dL_law_290 ?_
  refine J_sld dL_law_291 rfl (by omega) (by omega) ?_
  refine J_aload_0 dL_law_292 ?_
  refine J_iload_3 dL_law_293 ?_
  refine J_iconst (v := nI 2) dL_law_294 (by decide) ?_
  first | refine J_iaddN dL_law_295 ?_ | refine J_iadd dL_law_295 ?_
  refine J_sld dL_law_296 rfl (by omega) (by omega) ?_
  refine J_aload_0 dL_law_297 ?_
  refine J_iload_3 dL_law_298 ?_
  refine J_iconst (v := nI 3) dL_law_299 (by decide) ?_
  first | refine J_iaddN dL_law_300 ?_ | refine J_iadd dL_law_300 ?_
  refine J_sld dL_law_301 rfl (by omega) (by omega) ?_
  refine J_aload_0 dL_law_302 ?_
  refine J_iload_3 dL_law_303 ?_
  refine J_iconst (v := nI 4) dL_law_304 (by decide) ?_
  first | refine J_iaddN dL_law_305 ?_ | refine J_iadd dL_law_305 ?_
  refine J_sld dL_law_306 rfl (by omega) (by omega) ?_
  refine J_cV4 dL_law_307 jmX7_trim mv_L_27 hm1 rfl (Nat.le_of_ble_eq_true rfl) (by decide) (q2 X _ pm1) (fun r h' q => ?_)
  obtain ⟨rfl, pm2, o2⟩ := q
  refine J_icmp_eq (tgt := 1204) dL_law_310 (by decide) (fun _ => ?_) (fun c => absurd rfl c)
  exact nx _ _ (pd1.off (fun b hb => o2 b (Or.inl hb))) pm2
theorem w_set (hL : jL X < 2 ^ 31) (hi : i + 7 ≤ jL X) (pd : DeskAt h D) (pm : moAt h D) (nx : ∀ (h' : HF) (D' : DS), DeskAt h' D' → moAt h' D' → J X RL cL_law 4 8 (some .boolean) lawQ 1204 [some (.ref 2000), some (.ref 0), some (.ref 51), some (.int (nI i))] [] h') : J X RL cL_law 4 8 (some .boolean) lawQ 315 [some (.ref 2000), some (.ref 0), some (.ref 51), some (.int (nI i))] [] h := by
  obtain ⟨v, D1, q1, q2⟩ := p_set (D := D) pd.dok (jx X (i + 1)) (jx X (i + 2))
  obtain ⟨fs0, hc0⟩ := dk_cell pd
  refine J_aload_1 dL_law_315 ?_
  refine J_aload_0 dL_law_316 ?_
  refine J_iload_3 dL_law_317 ?_
  refine J_iconst (v := nI 1) dL_law_318 (by decide) ?_
  first | refine J_iaddN dL_law_319 ?_ | refine J_iadd dL_law_319 ?_
  refine J_sld dL_law_320 rfl (by omega) (by omega) ?_
  refine J_aload_0 dL_law_321 ?_
  refine J_iload_3 dL_law_322 ?_
  refine J_iconst (v := nI 2) dL_law_323 (by decide) ?_
  first | refine J_iaddN dL_law_324 ?_ | refine J_iadd dL_law_324 ?_
  refine J_sld dL_law_325 rfl (by omega) (by omega) ?_
  refine J_cV2 dL_law_326 jmX6_set mv_L_28 hc0 rfl (Nat.le_of_ble_eq_true rfl) (by decide) (q1 X h pd) (fun r h' q => ?_)
  obtain ⟨rfl, pd1, o1⟩ := q
  have pm1 := pm.off (fun b lo hi => o1 b (Or.inr lo))
  obtain ⟨fs1, hm1⟩ := mo_cell pm1
  refine J_aload_2 dL_law_329 ?_
  refine J_aload_0 dL_law_330 ?_
  refine J_iload_3 dL_law_331 ?_
  refine J_iconst (v := nI 1) dL_law_332 (by decide) ?_
  first | refine J_iaddN dL_law_333 ?_ | refine J_iadd dL_law_333 ?_
  refine J_sld dL_law_334 rfl (by omega) (by omega) ?_
  refine J_aload_0 dL_law_335 ?_
  refine J_iload_3 dL_law_336 ?_
  refine J_iconst (v := nI 2) dL_law_337 (by decide) ?_
  first | refine J_iaddN dL_law_338 ?_ | refine J_iadd dL_law_338 ?_
  refine J_sld dL_law_339 rfl (by omega) (by omega) ?_
  refine J_cV2 dL_law_340 jmX7_set mv_L_32 hm1 rfl (Nat.le_of_ble_eq_true rfl) (by decide) (q2 X _ pm1) (fun r h' q => ?_)
  obtain ⟨rfl, pm2, o2⟩ := q
  refine J_icmp_eq (tgt := 1204) dL_law_343 (by decide) (fun _ => ?_) (fun c => absurd rfl c)
  exact nx _ _ (pd1.off (fun b hb => o2 b (Or.inl hb))) pm2
theorem w_reel (hL : jL X < 2 ^ 31) (hi : i + 7 ≤ jL X) (pd : DeskAt h D) (pm : moAt h D) (nx : ∀ (h' : HF) (D' : DS), DeskAt h' D' → moAt h' D' → J X RL cL_law 4 8 (some .boolean) lawQ 1204 [some (.ref 2000), some (.ref 0), some (.ref 51), some (.int (nI i))] [] h') : J X RL cL_law 4 8 (some .boolean) lawQ 348 [some (.ref 2000), some (.ref 0), some (.ref 51), some (.int (nI i))] [] h := by
  obtain ⟨v, D1, q1, q2⟩ := p_reel (D := D) (jx X (i + 1)) (jx X (i + 2))
  obtain ⟨fs0, hc0⟩ := dk_cell pd
  refine J_aload_1 dL_law_348 ?_
  refine J_aload_0 dL_law_349 ?_
  refine J_iload_3 dL_law_350 ?_
  refine J_iconst (v := nI 1) dL_law_351 (by decide) ?_
  first | refine J_iaddN dL_law_352 ?_ | refine J_iadd dL_law_352 ?_
  refine J_sld dL_law_353 rfl (by omega) (by omega) ?_
  refine J_aload_0 dL_law_354 ?_
  refine J_iload_3 dL_law_355 ?_
  refine J_iconst (v := nI 2) dL_law_356 (by decide) ?_
  first | refine J_iaddN dL_law_357 ?_ | refine J_iadd dL_law_357 ?_
  refine J_sld dL_law_358 rfl (by omega) (by omega) ?_
  refine J_cV2 dL_law_359 jmX6_reel mv_L_33 hc0 rfl (Nat.le_of_ble_eq_true rfl) (by decide) (q1 X h pd) (fun r h' q => ?_)
  obtain ⟨rfl, pd1, o1⟩ := q
  have pm1 := pm.off (fun b lo hi => o1 b (Or.inr lo))
  obtain ⟨fs1, hm1⟩ := mo_cell pm1
  refine J_aload_2 dL_law_362 ?_
  refine J_aload_0 dL_law_363 ?_
  refine J_iload_3 dL_law_364 ?_
  refine J_iconst (v := nI 1) dL_law_365 (by decide) ?_
  first | refine J_iaddN dL_law_366 ?_ | refine J_iadd dL_law_366 ?_
  refine J_sld dL_law_367 rfl (by omega) (by omega) ?_
  refine J_aload_0 dL_law_368 ?_
  refine J_iload_3 dL_law_369 ?_
  refine J_iconst (v := nI 2) dL_law_370 (by decide) ?_
  first | refine J_iaddN dL_law_371 ?_ | refine J_iadd dL_law_371 ?_
  refine J_sld dL_law_372 rfl (by omega) (by omega) ?_
  refine J_cV2 dL_law_373 jmX7_reel mv_L_36 hm1 rfl (Nat.le_of_ble_eq_true rfl) (by decide) (q2 X _ pm1) (fun r h' q => ?_)
  obtain ⟨rfl, pm2, o2⟩ := q
  refine J_icmp_eq (tgt := 1204) dL_law_376 (by decide) (fun _ => ?_) (fun c => absurd rfl c)
  exact nx _ _ (pd1.off (fun b hb => o2 b (Or.inl hb))) pm2
theorem w_swap (hL : jL X < 2 ^ 31) (hi : i + 7 ≤ jL X) (pd : DeskAt h D) (pm : moAt h D) (nx : ∀ (h' : HF) (D' : DS), DeskAt h' D' → moAt h' D' → J X RL cL_law 4 8 (some .boolean) lawQ 1204 [some (.ref 2000), some (.ref 0), some (.ref 51), some (.int (nI i))] [] h') : J X RL cL_law 4 8 (some .boolean) lawQ 381 [some (.ref 2000), some (.ref 0), some (.ref 51), some (.int (nI i))] [] h := by
  obtain ⟨v, D1, q1, q2⟩ := p_swap (D := D)
  obtain ⟨fs0, hc0⟩ := dk_cell pd
  refine J_aload_1 dL_law_381 ?_
  refine J_cV0 dL_law_382 jmX6_swap mv_L_37 hc0 rfl (Nat.le_of_ble_eq_true rfl) (by decide) (q1 X h pd) (fun r h' q => ?_)
  obtain ⟨rfl, pd1, o1⟩ := q
  have pm1 := pm.off (fun b lo hi => o1 b (Or.inr lo))
  obtain ⟨fs1, hm1⟩ := mo_cell pm1
  refine J_aload_2 dL_law_385 ?_
  refine J_cV0 dL_law_386 jmX7_swap mv_L_41 hm1 rfl (Nat.le_of_ble_eq_true rfl) (by decide) (q2 X _ pm1) (fun r h' q => ?_)
  obtain ⟨rfl, pm2, o2⟩ := q
  refine J_icmp_eq (tgt := 1204) dL_law_389 (by decide) (fun _ => ?_) (fun c => absurd rfl c)
  exact nx _ _ (pd1.off (fun b hb => o2 b (Or.inl hb))) pm2
theorem w_read (hL : jL X < 2 ^ 31) (hi : i + 7 ≤ jL X) (pd : DeskAt h D) (pm : moAt h D) (nx : ∀ (h' : HF) (D' : DS), DeskAt h' D' → moAt h' D' → J X RL cL_law 4 8 (some .boolean) lawQ 1204 [some (.ref 2000), some (.ref 0), some (.ref 51), some (.int (nI i))] [] h') : J X RL cL_law 4 8 (some .boolean) lawQ 394 [some (.ref 2000), some (.ref 0), some (.ref 51), some (.int (nI i))] [] h := by
  obtain ⟨v, D1, q1, q2⟩ := p_read (D := D) (jx X (i + 1)) (jx X (i + 2))
  obtain ⟨fs0, hc0⟩ := dk_cell pd
  refine J_aload_1 dL_law_394 ?_
  refine J_aload_0 dL_law_395 ?_
  refine J_iload_3 dL_law_396 ?_
  refine J_iconst (v := nI 1) dL_law_397 (by decide) ?_
  first | refine J_iaddN dL_law_398 ?_ | refine J_iadd dL_law_398 ?_
  refine J_sld dL_law_399 rfl (by omega) (by omega) ?_
  refine J_aload_0 dL_law_400 ?_
  refine J_iload_3 dL_law_401 ?_
  refine J_iconst (v := nI 2) dL_law_402 (by decide) ?_
  first | refine J_iaddN dL_law_403 ?_ | refine J_iadd dL_law_403 ?_
  refine J_sld dL_law_404 rfl (by omega) (by omega) ?_
  refine J_cV2 dL_law_405 jmX6_read mv_L_42 hc0 rfl (Nat.le_of_ble_eq_true rfl) (by decide) (q1 X h pd) (fun r h' q => ?_)
  obtain ⟨rfl, pd1, o1⟩ := q
  have pm1 := pm.off (fun b lo hi => o1 b (Or.inr lo))
  obtain ⟨fs1, hm1⟩ := mo_cell pm1
  refine J_aload_2 dL_law_408 ?_
  refine J_aload_0 dL_law_409 ?_
  refine J_iload_3 dL_law_410 ?_
  refine J_iconst (v := nI 1) dL_law_411 (by decide) ?_
  first | refine J_iaddN dL_law_412 ?_ | refine J_iadd dL_law_412 ?_
  refine J_sld dL_law_413 rfl (by omega) (by omega) ?_
  refine J_aload_0 dL_law_414 ?_
  refine J_iload_3 dL_law_415 ?_
  refine J_iconst (v := nI 2) dL_law_416 (by decide) ?_
  first | refine J_iaddN dL_law_417 ?_ | refine J_iadd dL_law_417 ?_
  refine J_sld dL_law_418 rfl (by omega) (by omega) ?_
  refine J_cV2 dL_law_419 jmX7_read mv_L_45 hm1 rfl (Nat.le_of_ble_eq_true rfl) (by decide) (q2 X _ pm1) (fun r h' q => ?_)
  obtain ⟨rfl, pm2, o2⟩ := q
  refine J_icmp_eq (tgt := 1204) dL_law_422 (by decide) (fun _ => ?_) (fun c => absurd rfl c)
  exact nx _ _ (pd1.off (fun b hb => o2 b (Or.inl hb))) pm2
theorem w_info (hL : jL X < 2 ^ 31) (hi : i + 7 ≤ jL X) (pd : DeskAt h D) (pm : moAt h D) (nx : ∀ (h' : HF) (D' : DS), DeskAt h' D' → moAt h' D' → J X RL cL_law 4 8 (some .boolean) lawQ 1204 [some (.ref 2000), some (.ref 0), some (.ref 51), some (.int (nI i))] [] h') : J X RL cL_law 4 8 (some .boolean) lawQ 427 [some (.ref 2000), some (.ref 0), some (.ref 51), some (.int (nI i))] [] h := by
  obtain ⟨v, D1, q1, q2⟩ := p_info (D := D) (jx X (i + 1)) (jx X (i + 2)) (jx X (i + 3))
  obtain ⟨fs0, hc0⟩ := dk_cell pd
  refine J_aload_1 dL_law_427 ?_
  refine J_aload_0 dL_law_428 ?_
  refine J_iload_3 dL_law_429 ?_
  refine J_iconst (v := nI 1) dL_law_430 (by decide) ?_
  first | refine J_iaddN dL_law_431 ?_ | refine J_iadd dL_law_431 ?_
  refine J_sld dL_law_432 rfl (by omega) (by omega) ?_
  refine J_aload_0 dL_law_433 ?_
  refine J_iload_3 dL_law_434 ?_
  refine J_iconst (v := nI 2) dL_law_435 (by decide) ?_
  first | refine J_iaddN dL_law_436 ?_ | refine J_iadd dL_law_436 ?_
  refine J_sld dL_law_437 rfl (by omega) (by omega) ?_
  refine J_aload_0 dL_law_438 ?_
  refine J_iload_3 dL_law_439 ?_
  refine J_iconst (v := nI 3) dL_law_440 (by decide) ?_
  first | refine J_iaddN dL_law_441 ?_ | refine J_iadd dL_law_441 ?_
  refine J_sld dL_law_442 rfl (by omega) (by omega) ?_
  refine J_cV3 dL_law_443 jmX6_info mv_L_46 hc0 rfl (Nat.le_of_ble_eq_true rfl) (by decide) (q1 X h pd) (fun r h' q => ?_)
  obtain ⟨rfl, pd1, o1⟩ := q
  have pm1 := pm.off (fun b lo hi => o1 b (Or.inr lo))
  obtain ⟨fs1, hm1⟩ := mo_cell pm1
  refine J_aload_2 dL_law_446 ?_
  refine J_aload_0 dL_law_447 ?_
  refine J_iload_3 dL_law_448 ?_
  refine J_iconst (v := nI 1) dL_law_449 (by decide) ?_
  first | refine J_iaddN dL_law_450 ?_ | refine J_iadd dL_law_450 ?_
  refine J_sld dL_law_451 rfl (by omega) (by omega) ?_
  refine J_aload_0 dL_law_452 ?_
  refine J_iload_3 dL_law_453 ?_
  refine J_iconst (v := nI 2) dL_law_454 (by decide) ?_
  first | refine J_iaddN dL_law_455 ?_ | refine J_iadd dL_law_455 ?_
  refine J_sld dL_law_456 rfl (by omega) (by omega) ?_
  refine J_aload_0 dL_law_457 ?_
  refine J_iload_3 dL_law_458 ?_
  refine J_iconst (v := nI 3) dL_law_459 (by decide) ?_
  first | refine J_iaddN dL_law_460 ?_ | refine J_iadd dL_law_460 ?_
  refine J_sld dL_law_461 rfl (by omega) (by omega) ?_
  refine J_cV3 dL_law_462 jmX7_info mv_L_50 hm1 rfl (Nat.le_of_ble_eq_true rfl) (by decide) (q2 X _ pm1) (fun r h' q => ?_)
  obtain ⟨rfl, pm2, o2⟩ := q
  refine J_icmp_eq (tgt := 1204) dL_law_465 (by decide) (fun _ => ?_) (fun c => absurd rfl c)
  exact nx _ _ (pd1.off (fun b hb => o2 b (Or.inl hb))) pm2
theorem w_shows (hL : jL X < 2 ^ 31) (hi : i + 7 ≤ jL X) (pd : DeskAt h D) (pm : moAt h D) (nx : ∀ (h' : HF) (D' : DS), DeskAt h' D' → moAt h' D' → J X RL cL_law 4 8 (some .boolean) lawQ 1204 [some (.ref 2000), some (.ref 0), some (.ref 51), some (.int (nI i))] [] h') : J X RL cL_law 4 8 (some .boolean) lawQ 470 [some (.ref 2000), some (.ref 0), some (.ref 51), some (.int (nI i))] [] h := by
  obtain ⟨v, D1, q1, q2⟩ := p_shows (D := D) (jx X (i + 1)) (jx X (i + 2)) (jx X (i + 3))
  obtain ⟨fs0, hc0⟩ := dk_cell pd
  refine J_aload_1 dL_law_470 ?_
  refine J_aload_0 dL_law_471 ?_
  refine J_iload_3 dL_law_472 ?_
  refine J_iconst (v := nI 1) dL_law_473 (by decide) ?_
  first | refine J_iaddN dL_law_474 ?_ | refine J_iadd dL_law_474 ?_
  refine J_sld dL_law_475 rfl (by omega) (by omega) ?_
  refine J_aload_0 dL_law_476 ?_
  refine J_iload_3 dL_law_477 ?_
  refine J_iconst (v := nI 2) dL_law_478 (by decide) ?_
  first | refine J_iaddN dL_law_479 ?_ | refine J_iadd dL_law_479 ?_
  refine J_sld dL_law_480 rfl (by omega) (by omega) ?_
  refine J_aload_0 dL_law_481 ?_
  refine J_iload_3 dL_law_482 ?_
  refine J_iconst (v := nI 3) dL_law_483 (by decide) ?_
  first | refine J_iaddN dL_law_484 ?_ | refine J_iadd dL_law_484 ?_
  refine J_sld dL_law_485 rfl (by omega) (by omega) ?_
  refine J_cV3 dL_law_486 jmX6_shows mv_L_51 hc0 rfl (Nat.le_of_ble_eq_true rfl) (by decide) (q1 X h pd) (fun r h' q => ?_)
  obtain ⟨rfl, pd1, o1⟩ := q
  have pm1 := pm.off (fun b lo hi => o1 b (Or.inr lo))
  obtain ⟨fs1, hm1⟩ := mo_cell pm1
  refine J_aload_2 dL_law_489 ?_
  refine J_aload_0 dL_law_490 ?_
  refine J_iload_3 dL_law_491 ?_
  refine J_iconst (v := nI 1) dL_law_492 (by decide) ?_
  first | refine J_iaddN dL_law_493 ?_ | refine J_iadd dL_law_493 ?_
  refine J_sld dL_law_494 rfl (by omega) (by omega) ?_
  refine J_aload_0 dL_law_495 ?_
  refine J_iload_3 dL_law_496 ?_
  refine J_iconst (v := nI 2) dL_law_497 (by decide) ?_
  first | refine J_iaddN dL_law_498 ?_ | refine J_iadd dL_law_498 ?_
  refine J_sld dL_law_499 rfl (by omega) (by omega) ?_
  refine J_aload_0 dL_law_500 ?_
  refine J_iload_3 dL_law_501 ?_
  refine J_iconst (v := nI 3) dL_law_502 (by decide) ?_
  first | refine J_iaddN dL_law_503 ?_ | refine J_iadd dL_law_503 ?_
  refine J_sld dL_law_504 rfl (by omega) (by omega) ?_
  refine J_cV3 dL_law_505 jmX7_shows mv_L_54 hm1 rfl (Nat.le_of_ble_eq_true rfl) (by decide) (q2 X _ pm1) (fun r h' q => ?_)
  obtain ⟨rfl, pm2, o2⟩ := q
  refine J_icmp_eq (tgt := 1204) dL_law_508 (by decide) (fun _ => ?_) (fun c => absurd rfl c)
  exact nx _ _ (pd1.off (fun b hb => o2 b (Or.inl hb))) pm2
theorem w_seen (hL : jL X < 2 ^ 31) (hi : i + 7 ≤ jL X) (pd : DeskAt h D) (pm : moAt h D) (nx : ∀ (h' : HF) (D' : DS), DeskAt h' D' → moAt h' D' → J X RL cL_law 4 8 (some .boolean) lawQ 1204 [some (.ref 2000), some (.ref 0), some (.ref 51), some (.int (nI i))] [] h') : J X RL cL_law 4 8 (some .boolean) lawQ 513 [some (.ref 2000), some (.ref 0), some (.ref 51), some (.int (nI i))] [] h := by
  obtain ⟨v, D1, q1, q2⟩ := p_seen (D := D) (jx X (i + 1)) (jx X (i + 2)) (jx X (i + 3)) (jx X (i + 4))
  obtain ⟨fs0, hc0⟩ := dk_cell pd
  refine J_aload_1 dL_law_513 ?_
  refine J_aload_0 dL_law_514 ?_
  refine J_iload_3 dL_law_515 ?_
  refine J_iconst (v := nI 1) dL_law_516 (by decide) ?_
  first | refine J_iaddN dL_law_517 ?_ | refine J_iadd dL_law_517 ?_
  refine J_sld dL_law_518 rfl (by omega) (by omega) ?_
  refine J_aload_0 dL_law_519 ?_
  refine J_iload_3 dL_law_520 ?_
  refine J_iconst (v := nI 2) dL_law_521 (by decide) ?_
  first | refine J_iaddN dL_law_522 ?_ | refine J_iadd dL_law_522 ?_
  refine J_sld dL_law_523 rfl (by omega) (by omega) ?_
  refine J_aload_0 dL_law_524 ?_
  refine J_iload_3 dL_law_525 ?_
  refine J_iconst (v := nI 3) dL_law_526 (by decide) ?_
  first | refine J_iaddN dL_law_527 ?_ | refine J_iadd dL_law_527 ?_
  refine J_sld dL_law_528 rfl (by omega) (by omega) ?_
  refine J_aload_0 dL_law_529 ?_
  refine J_iload_3 dL_law_530 ?_
  refine J_iconst (v := nI 4) dL_law_531 (by decide) ?_
  first | refine J_iaddN dL_law_532 ?_ | refine J_iadd dL_law_532 ?_
  refine J_sld dL_law_533 rfl (by omega) (by omega) ?_
  refine J_cV4 dL_law_534 jmX6_seen mv_L_55 hc0 rfl (Nat.le_of_ble_eq_true rfl) (by decide) (q1 X h pd) (fun r h' q => ?_)
  obtain ⟨rfl, pd1, o1⟩ := q
  have pm1 := pm.off (fun b lo hi => o1 b (Or.inr lo))
  obtain ⟨fs1, hm1⟩ := mo_cell pm1
  refine J_aload_2 dL_law_537 ?_
  refine J_aload_0 dL_law_538 ?_
  refine J_iload_3 dL_law_539 ?_
  refine J_iconst (v := nI 1) dL_law_540 (by decide) ?_
  first | refine J_iaddN dL_law_541 ?_ | refine J_iadd dL_law_541 ?_
  refine J_sld dL_law_542 rfl (by omega) (by omega) ?_
  refine J_aload_0 dL_law_543 ?_
  refine J_iload_3 dL_law_544 ?_
  refine J_iconst (v := nI 2) dL_law_545 (by decide) ?_
  first | refine J_iaddN dL_law_546 ?_ | refine J_iadd dL_law_546 ?_
  refine J_sld dL_law_547 rfl (by omega) (by omega) ?_
  refine J_aload_0 dL_law_548 ?_
  refine J_iload_3 dL_law_549 ?_
  refine J_iconst (v := nI 3) dL_law_550 (by decide) ?_
  first | refine J_iaddN dL_law_551 ?_ | refine J_iadd dL_law_551 ?_
  refine J_sld dL_law_552 rfl (by omega) (by omega) ?_
  refine J_aload_0 dL_law_553 ?_
  refine J_iload_3 dL_law_554 ?_
  refine J_iconst (v := nI 4) dL_law_555 (by decide) ?_
  first | refine J_iaddN dL_law_556 ?_ | refine J_iadd dL_law_556 ?_
  refine J_sld dL_law_557 rfl (by omega) (by omega) ?_
  refine J_cV4 dL_law_558 jmX7_seen mv_L_58 hm1 rfl (Nat.le_of_ble_eq_true rfl) (by decide) (q2 X _ pm1) (fun r h' q => ?_)
  obtain ⟨rfl, pm2, o2⟩ := q
  refine J_icmp_eq (tgt := 1204) dL_law_561 (by decide) (fun _ => ?_) (fun c => absurd rfl c)
  exact nx _ _ (pd1.off (fun b hb => o2 b (Or.inl hb))) pm2
theorem w_still (hL : jL X < 2 ^ 31) (hi : i + 7 ≤ jL X) (pd : DeskAt h D) (pm : moAt h D) (nx : ∀ (h' : HF) (D' : DS), DeskAt h' D' → moAt h' D' → J X RL cL_law 4 8 (some .boolean) lawQ 1204 [some (.ref 2000), some (.ref 0), some (.ref 51), some (.int (nI i))] [] h') : J X RL cL_law 4 8 (some .boolean) lawQ 566 [some (.ref 2000), some (.ref 0), some (.ref 51), some (.int (nI i))] [] h := by
  obtain ⟨v, D1, q1, q2⟩ := p_still (D := D) (jx X (i + 1)) (jx X (i + 2)) (jx X (i + 3))
  obtain ⟨fs0, hc0⟩ := dk_cell pd
  refine J_aload_1 dL_law_566 ?_
  refine J_aload_0 dL_law_567 ?_
  refine J_iload_3 dL_law_568 ?_
  refine J_iconst (v := nI 1) dL_law_569 (by decide) ?_
  first | refine J_iaddN dL_law_570 ?_ | refine J_iadd dL_law_570 ?_
  refine J_sld dL_law_571 rfl (by omega) (by omega) ?_
  refine J_aload_0 dL_law_572 ?_
  refine J_iload_3 dL_law_573 ?_
  refine J_iconst (v := nI 2) dL_law_574 (by decide) ?_
  first | refine J_iaddN dL_law_575 ?_ | refine J_iadd dL_law_575 ?_
  refine J_sld dL_law_576 rfl (by omega) (by omega) ?_
  refine J_aload_0 dL_law_577 ?_
  refine J_iload_3 dL_law_578 ?_
  refine J_iconst (v := nI 3) dL_law_579 (by decide) ?_
  first | refine J_iaddN dL_law_580 ?_ | refine J_iadd dL_law_580 ?_
  refine J_sld dL_law_581 rfl (by omega) (by omega) ?_
  refine J_cV3 dL_law_582 jmX6_still mv_L_59 hc0 rfl (Nat.le_of_ble_eq_true rfl) (by decide) (q1 X h pd) (fun r h' q => ?_)
  obtain ⟨rfl, pd1, o1⟩ := q
  have pm1 := pm.off (fun b lo hi => o1 b (Or.inr lo))
  obtain ⟨fs1, hm1⟩ := mo_cell pm1
  refine J_aload_2 dL_law_585 ?_
  refine J_aload_0 dL_law_586 ?_
  refine J_iload_3 dL_law_587 ?_
  refine J_iconst (v := nI 1) dL_law_588 (by decide) ?_
  first | refine J_iaddN dL_law_589 ?_ | refine J_iadd dL_law_589 ?_
  refine J_sld dL_law_590 rfl (by omega) (by omega) ?_
  refine J_aload_0 dL_law_591 ?_
  refine J_iload_3 dL_law_592 ?_
  refine J_iconst (v := nI 2) dL_law_593 (by decide) ?_
  first | refine J_iaddN dL_law_594 ?_ | refine J_iadd dL_law_594 ?_
  refine J_sld dL_law_595 rfl (by omega) (by omega) ?_
  refine J_aload_0 dL_law_596 ?_
  refine J_iload_3 dL_law_597 ?_
  refine J_iconst (v := nI 3) dL_law_598 (by decide) ?_
  first | refine J_iaddN dL_law_599 ?_ | refine J_iadd dL_law_599 ?_
  refine J_sld dL_law_600 rfl (by omega) (by omega) ?_
  refine J_cV3 dL_law_601 jmX7_still mv_L_62 hm1 rfl (Nat.le_of_ble_eq_true rfl) (by decide) (q2 X _ pm1) (fun r h' q => ?_)
  obtain ⟨rfl, pm2, o2⟩ := q
  refine J_icmp_eq (tgt := 1204) dL_law_604 (by decide) (fun _ => ?_) (fun c => absurd rfl c)
  exact nx _ _ (pd1.off (fun b hb => o2 b (Or.inl hb))) pm2
theorem w_told (hL : jL X < 2 ^ 31) (hi : i + 7 ≤ jL X) (pd : DeskAt h D) (pm : moAt h D) (nx : ∀ (h' : HF) (D' : DS), DeskAt h' D' → moAt h' D' → J X RL cL_law 4 8 (some .boolean) lawQ 1204 [some (.ref 2000), some (.ref 0), some (.ref 51), some (.int (nI i))] [] h') : J X RL cL_law 4 8 (some .boolean) lawQ 609 [some (.ref 2000), some (.ref 0), some (.ref 51), some (.int (nI i))] [] h := by
  obtain ⟨v, D1, q1, q2⟩ := p_told (D := D) (jx X (i + 1)) (jx X (i + 2))
  obtain ⟨fs0, hc0⟩ := dk_cell pd
  refine J_aload_1 dL_law_609 ?_
  refine J_aload_0 dL_law_610 ?_
  refine J_iload_3 dL_law_611 ?_
  refine J_iconst (v := nI 1) dL_law_612 (by decide) ?_
  first | refine J_iaddN dL_law_613 ?_ | refine J_iadd dL_law_613 ?_
  refine J_sld dL_law_614 rfl (by omega) (by omega) ?_
  refine J_aload_0 dL_law_615 ?_
  refine J_iload_3 dL_law_616 ?_
  refine J_iconst (v := nI 2) dL_law_617 (by decide) ?_
  first | refine J_iaddN dL_law_618 ?_ | refine J_iadd dL_law_618 ?_
  refine J_sld dL_law_619 rfl (by omega) (by omega) ?_
  refine J_cV2 dL_law_620 jmX6_told mv_L_63 hc0 rfl (Nat.le_of_ble_eq_true rfl) (by decide) (q1 X h pd) (fun r h' q => ?_)
  obtain ⟨rfl, pd1, o1⟩ := q
  have pm1 := pm.off (fun b lo hi => o1 b (Or.inr lo))
  obtain ⟨fs1, hm1⟩ := mo_cell pm1
  refine J_aload_2 dL_law_623 ?_
  refine J_aload_0 dL_law_624 ?_
  refine J_iload_3 dL_law_625 ?_
  refine J_iconst (v := nI 1) dL_law_626 (by decide) ?_
  first | refine J_iaddN dL_law_627 ?_ | refine J_iadd dL_law_627 ?_
  refine J_sld dL_law_628 rfl (by omega) (by omega) ?_
  refine J_aload_0 dL_law_629 ?_
  refine J_iload_3 dL_law_630 ?_
  refine J_iconst (v := nI 2) dL_law_631 (by decide) ?_
  first | refine J_iaddN dL_law_632 ?_ | refine J_iadd dL_law_632 ?_
  refine J_sld dL_law_633 rfl (by omega) (by omega) ?_
  refine J_cV2 dL_law_634 jmX7_told mv_L_66 hm1 rfl (Nat.le_of_ble_eq_true rfl) (by decide) (q2 X _ pm1) (fun r h' q => ?_)
  obtain ⟨rfl, pm2, o2⟩ := q
  refine J_icmp_eq (tgt := 1204) dL_law_637 (by decide) (fun _ => ?_) (fun c => absurd rfl c)
  exact nx _ _ (pd1.off (fun b hb => o2 b (Or.inl hb))) pm2
theorem w_number (hL : jL X < 2 ^ 31) (hi : i + 7 ≤ jL X) (pd : DeskAt h D) (pm : moAt h D) (nx : ∀ (h' : HF) (D' : DS), DeskAt h' D' → moAt h' D' → J X RL cL_law 4 8 (some .boolean) lawQ 1204 [some (.ref 2000), some (.ref 0), some (.ref 51), some (.int (nI i))] [] h') : J X RL cL_law 4 8 (some .boolean) lawQ 642 [some (.ref 2000), some (.ref 0), some (.ref 51), some (.int (nI i))] [] h := by
  obtain ⟨v, D1, q1, q2⟩ := p_number (D := D) (jx X (i + 1)) (jx X (i + 2)) (jx X (i + 3)) (jx X (i + 4))
  obtain ⟨fs0, hc0⟩ := dk_cell pd
  refine J_aload_1 dL_law_642 ?_
  refine J_aload_0 dL_law_643 ?_
  refine J_iload_3 dL_law_644 ?_
  refine J_iconst (v := nI 1) dL_law_645 (by decide) ?_
  first | refine J_iaddN dL_law_646 ?_ | refine J_iadd dL_law_646 ?_
  refine J_sld dL_law_647 rfl (by omega) (by omega) ?_
  refine J_aload_0 dL_law_648 ?_
  refine J_iload_3 dL_law_649 ?_
  refine J_iconst (v := nI 2) dL_law_650 (by decide) ?_
  first | refine J_iaddN dL_law_651 ?_ | refine J_iadd dL_law_651 ?_
  refine J_sld dL_law_652 rfl (by omega) (by omega) ?_
  refine J_aload_0 dL_law_653 ?_
  refine J_iload_3 dL_law_654 ?_
  refine J_iconst (v := nI 3) dL_law_655 (by decide) ?_
  first | refine J_iaddN dL_law_656 ?_ | refine J_iadd dL_law_656 ?_
  refine J_sld dL_law_657 rfl (by omega) (by omega) ?_
  refine J_aload_0 dL_law_658 ?_
  refine J_iload_3 dL_law_659 ?_
  refine J_iconst (v := nI 4) dL_law_660 (by decide) ?_
  first | refine J_iaddN dL_law_661 ?_ | refine J_iadd dL_law_661 ?_
  refine J_sld dL_law_662 rfl (by omega) (by omega) ?_
  refine J_cV4 dL_law_663 jmX6_number mv_L_67 hc0 rfl (Nat.le_of_ble_eq_true rfl) (by decide) (q1 X h pd) (fun r h' q => ?_)
  obtain ⟨rfl, pd1, o1⟩ := q
  have pm1 := pm.off (fun b lo hi => o1 b (Or.inr lo))
  obtain ⟨fs1, hm1⟩ := mo_cell pm1
  refine J_aload_2 dL_law_666 ?_
  refine J_aload_0 dL_law_667 ?_
  refine J_iload_3 dL_law_668 ?_
  refine J_iconst (v := nI 1) dL_law_669 (by decide) ?_
  first | refine J_iaddN dL_law_670 ?_ | refine J_iadd dL_law_670 ?_
  refine J_sld dL_law_671 rfl (by omega) (by omega) ?_
  refine J_aload_0 dL_law_672 ?_
  refine J_iload_3 dL_law_673 ?_
  refine J_iconst (v := nI 2) dL_law_674 (by decide) ?_
  first | refine J_iaddN dL_law_675 ?_ | refine J_iadd dL_law_675 ?_
  refine J_sld dL_law_676 rfl (by omega) (by omega) ?_
  refine J_aload_0 dL_law_677 ?_
  refine J_iload_3 dL_law_678 ?_
  refine J_iconst (v := nI 3) dL_law_679 (by decide) ?_
  first | refine J_iaddN dL_law_680 ?_ | refine J_iadd dL_law_680 ?_
  refine J_sld dL_law_681 rfl (by omega) (by omega) ?_
  refine J_aload_0 dL_law_682 ?_
  refine J_iload_3 dL_law_683 ?_
  refine J_iconst (v := nI 4) dL_law_684 (by decide) ?_
  first | refine J_iaddN dL_law_685 ?_ | refine J_iadd dL_law_685 ?_
  refine J_sld dL_law_686 rfl (by omega) (by omega) ?_
  refine J_cV4 dL_law_687 jmX7_number mv_L_70 hm1 rfl (Nat.le_of_ble_eq_true rfl) (by decide) (q2 X _ pm1) (fun r h' q => ?_)
  obtain ⟨rfl, pm2, o2⟩ := q
  refine J_icmp_eq (tgt := 1204) dL_law_690 (by decide) (fun _ => ?_) (fun c => absurd rfl c)
  exact nx _ _ (pd1.off (fun b hb => o2 b (Or.inl hb))) pm2
theorem w_pulls (hL : jL X < 2 ^ 31) (hi : i + 7 ≤ jL X) (pd : DeskAt h D) (pm : moAt h D) (nx : ∀ (h' : HF) (D' : DS), DeskAt h' D' → moAt h' D' → J X RL cL_law 4 8 (some .boolean) lawQ 1204 [some (.ref 2000), some (.ref 0), some (.ref 51), some (.int (nI i))] [] h') : J X RL cL_law 4 8 (some .boolean) lawQ 695 [some (.ref 2000), some (.ref 0), some (.ref 51), some (.int (nI i))] [] h := by
  obtain ⟨v, D1, q1, q2⟩ := p_pulls (D := D) (jx X (i + 1))
  obtain ⟨fs0, hc0⟩ := dk_cell pd
  refine J_aload_1 dL_law_695 ?_
  refine J_aload_0 dL_law_696 ?_
  refine J_iload_3 dL_law_697 ?_
  refine J_iconst (v := nI 1) dL_law_698 (by decide) ?_
  first | refine J_iaddN dL_law_699 ?_ | refine J_iadd dL_law_699 ?_
  refine J_sld dL_law_700 rfl (by omega) (by omega) ?_
  refine J_cV1 dL_law_701 jmX6_pulls mv_L_71 hc0 rfl (Nat.le_of_ble_eq_true rfl) (by decide) (q1 X h pd) (fun r h' q => ?_)
  obtain ⟨rfl, pd1, o1⟩ := q
  have pm1 := pm.off (fun b lo hi => o1 b (Or.inr lo))
  obtain ⟨fs1, hm1⟩ := mo_cell pm1
  refine J_aload_2 dL_law_704 ?_
  refine J_aload_0 dL_law_705 ?_
  refine J_iload_3 dL_law_706 ?_
  refine J_iconst (v := nI 1) dL_law_707 (by decide) ?_
  first | refine J_iaddN dL_law_708 ?_ | refine J_iadd dL_law_708 ?_
  refine J_sld dL_law_709 rfl (by omega) (by omega) ?_
  refine J_cV1 dL_law_710 jmX7_pulls mv_L_74 hm1 rfl (Nat.le_of_ble_eq_true rfl) (by decide) (q2 X _ pm1) (fun r h' q => ?_)
  obtain ⟨rfl, pm2, o2⟩ := q
  refine J_icmp_eq (tgt := 1204) dL_law_713 (by decide) (fun _ => ?_) (fun c => absurd rfl c)
  exact nx _ _ (pd1.off (fun b hb => o2 b (Or.inl hb))) pm2
theorem w_pull (hL : jL X < 2 ^ 31) (hi : i + 7 ≤ jL X) (pd : DeskAt h D) (pm : moAt h D) (nx : ∀ (h' : HF) (D' : DS), DeskAt h' D' → moAt h' D' → J X RL cL_law 4 8 (some .boolean) lawQ 1204 [some (.ref 2000), some (.ref 0), some (.ref 51), some (.int (nI i))] [] h') : J X RL cL_law 4 8 (some .boolean) lawQ 718 [some (.ref 2000), some (.ref 0), some (.ref 51), some (.int (nI i))] [] h := by
  obtain ⟨v, D1, q1, q2⟩ := p_pull (D := D) (jx X (i + 1)) (jx X (i + 2)) (jx X (i + 3))
  obtain ⟨fs0, hc0⟩ := dk_cell pd
  refine J_aload_1 dL_law_718 ?_
  refine J_aload_0 dL_law_719 ?_
  refine J_iload_3 dL_law_720 ?_
  refine J_iconst (v := nI 1) dL_law_721 (by decide) ?_
  first | refine J_iaddN dL_law_722 ?_ | refine J_iadd dL_law_722 ?_
  refine J_sld dL_law_723 rfl (by omega) (by omega) ?_
  refine J_aload_0 dL_law_724 ?_
  refine J_iload_3 dL_law_725 ?_
  refine J_iconst (v := nI 2) dL_law_726 (by decide) ?_
  first | refine J_iaddN dL_law_727 ?_ | refine J_iadd dL_law_727 ?_
  refine J_sld dL_law_728 rfl (by omega) (by omega) ?_
  refine J_aload_0 dL_law_729 ?_
  refine J_iload_3 dL_law_730 ?_
  refine J_iconst (v := nI 3) dL_law_731 (by decide) ?_
  first | refine J_iaddN dL_law_732 ?_ | refine J_iadd dL_law_732 ?_
  refine J_sld dL_law_733 rfl (by omega) (by omega) ?_
  refine J_cV3 dL_law_734 jmX6_pull mv_L_75 hc0 rfl (Nat.le_of_ble_eq_true rfl) (by decide) (q1 X h pd) (fun r h' q => ?_)
  obtain ⟨rfl, pd1, o1⟩ := q
  have pm1 := pm.off (fun b lo hi => o1 b (Or.inr lo))
  obtain ⟨fs1, hm1⟩ := mo_cell pm1
  refine J_aload_2 dL_law_737 ?_
  refine J_aload_0 dL_law_738 ?_
  refine J_iload_3 dL_law_739 ?_
  refine J_iconst (v := nI 1) dL_law_740 (by decide) ?_
  first | refine J_iaddN dL_law_741 ?_ | refine J_iadd dL_law_741 ?_
  refine J_sld dL_law_742 rfl (by omega) (by omega) ?_
  refine J_aload_0 dL_law_743 ?_
  refine J_iload_3 dL_law_744 ?_
  refine J_iconst (v := nI 2) dL_law_745 (by decide) ?_
  first | refine J_iaddN dL_law_746 ?_ | refine J_iadd dL_law_746 ?_
  refine J_sld dL_law_747 rfl (by omega) (by omega) ?_
  refine J_aload_0 dL_law_748 ?_
  refine J_iload_3 dL_law_749 ?_
  refine J_iconst (v := nI 3) dL_law_750 (by decide) ?_
  first | refine J_iaddN dL_law_751 ?_ | refine J_iadd dL_law_751 ?_
  refine J_sld dL_law_752 rfl (by omega) (by omega) ?_
  refine J_cV3 dL_law_753 jmX7_pull mv_L_78 hm1 rfl (Nat.le_of_ble_eq_true rfl) (by decide) (q2 X _ pm1) (fun r h' q => ?_)
  obtain ⟨rfl, pm2, o2⟩ := q
  refine J_icmp_eq (tgt := 1204) dL_law_756 (by decide) (fun _ => ?_) (fun c => absurd rfl c)
  exact nx _ _ (pd1.off (fun b hb => o2 b (Or.inl hb))) pm2
theorem w_waste (hL : jL X < 2 ^ 31) (hi : i + 7 ≤ jL X) (pd : DeskAt h D) (pm : moAt h D) (nx : ∀ (h' : HF) (D' : DS), DeskAt h' D' → moAt h' D' → J X RL cL_law 4 8 (some .boolean) lawQ 1204 [some (.ref 2000), some (.ref 0), some (.ref 51), some (.int (nI i))] [] h') : J X RL cL_law 4 8 (some .boolean) lawQ 761 [some (.ref 2000), some (.ref 0), some (.ref 51), some (.int (nI i))] [] h := by
  obtain ⟨v, D1, q1, q2⟩ := p_waste (D := D) (jx X (i + 1))
  obtain ⟨fs0, hc0⟩ := dk_cell pd
  refine J_aload_1 dL_law_761 ?_
  refine J_aload_0 dL_law_762 ?_
  refine J_iload_3 dL_law_763 ?_
  refine J_iconst (v := nI 1) dL_law_764 (by decide) ?_
  first | refine J_iaddN dL_law_765 ?_ | refine J_iadd dL_law_765 ?_
  refine J_sld dL_law_766 rfl (by omega) (by omega) ?_
  refine J_cV1 dL_law_767 jmX6_waste mv_L_79 hc0 rfl (Nat.le_of_ble_eq_true rfl) (by decide) (q1 X h pd) (fun r h' q => ?_)
  obtain ⟨rfl, pd1, o1⟩ := q
  have pm1 := pm.off (fun b lo hi => o1 b (Or.inr lo))
  obtain ⟨fs1, hm1⟩ := mo_cell pm1
  refine J_aload_2 dL_law_770 ?_
  refine J_aload_0 dL_law_771 ?_
  refine J_iload_3 dL_law_772 ?_
  refine J_iconst (v := nI 1) dL_law_773 (by decide) ?_
  first | refine J_iaddN dL_law_774 ?_ | refine J_iadd dL_law_774 ?_
  refine J_sld dL_law_775 rfl (by omega) (by omega) ?_
  refine J_cV1 dL_law_776 jmX7_waste mv_L_82 hm1 rfl (Nat.le_of_ble_eq_true rfl) (by decide) (q2 X _ pm1) (fun r h' q => ?_)
  obtain ⟨rfl, pm2, o2⟩ := q
  refine J_icmp_eq (tgt := 1204) dL_law_779 (by decide) (fun _ => ?_) (fun c => absurd rfl c)
  exact nx _ _ (pd1.off (fun b hb => o2 b (Or.inl hb))) pm2
theorem w_total (hL : jL X < 2 ^ 31) (hi : i + 7 ≤ jL X) (pd : DeskAt h D) (pm : moAt h D) (nx : ∀ (h' : HF) (D' : DS), DeskAt h' D' → moAt h' D' → J X RL cL_law 4 8 (some .boolean) lawQ 1204 [some (.ref 2000), some (.ref 0), some (.ref 51), some (.int (nI i))] [] h') : J X RL cL_law 4 8 (some .boolean) lawQ 784 [some (.ref 2000), some (.ref 0), some (.ref 51), some (.int (nI i))] [] h := by
  obtain ⟨v, D1, q1, q2⟩ := p_total (D := D) (jx X (i + 1)) (jx X (i + 2))
  obtain ⟨fs0, hc0⟩ := dk_cell pd
  refine J_aload_1 dL_law_784 ?_
  refine J_aload_0 dL_law_785 ?_
  refine J_iload_3 dL_law_786 ?_
  refine J_iconst (v := nI 1) dL_law_787 (by decide) ?_
  first | refine J_iaddN dL_law_788 ?_ | refine J_iadd dL_law_788 ?_
  refine J_sld dL_law_789 rfl (by omega) (by omega) ?_
  refine J_aload_0 dL_law_790 ?_
  refine J_iload_3 dL_law_791 ?_
  refine J_iconst (v := nI 2) dL_law_792 (by decide) ?_
  first | refine J_iaddN dL_law_793 ?_ | refine J_iadd dL_law_793 ?_
  refine J_sld dL_law_794 rfl (by omega) (by omega) ?_
  refine J_cV2 dL_law_795 jmX6_total mv_L_83 hc0 rfl (Nat.le_of_ble_eq_true rfl) (by decide) (q1 X h pd) (fun r h' q => ?_)
  obtain ⟨rfl, pd1, o1⟩ := q
  have pm1 := pm.off (fun b lo hi => o1 b (Or.inr lo))
  obtain ⟨fs1, hm1⟩ := mo_cell pm1
  refine J_aload_2 dL_law_798 ?_
  refine J_aload_0 dL_law_799 ?_
  refine J_iload_3 dL_law_800 ?_
  refine J_iconst (v := nI 1) dL_law_801 (by decide) ?_
  first | refine J_iaddN dL_law_802 ?_ | refine J_iadd dL_law_802 ?_
  refine J_sld dL_law_803 rfl (by omega) (by omega) ?_
  refine J_aload_0 dL_law_804 ?_
  refine J_iload_3 dL_law_805 ?_
  refine J_iconst (v := nI 2) dL_law_806 (by decide) ?_
  first | refine J_iaddN dL_law_807 ?_ | refine J_iadd dL_law_807 ?_
  refine J_sld dL_law_808 rfl (by omega) (by omega) ?_
  refine J_cV2 dL_law_809 jmX7_total mv_L_86 hm1 rfl (Nat.le_of_ble_eq_true rfl) (by decide) (q2 X _ pm1) (fun r h' q => ?_)
  obtain ⟨rfl, pm2, o2⟩ := q
  refine J_icmp_eq (tgt := 1204) dL_law_812 (by decide) (fun _ => ?_) (fun c => absurd rfl c)
  exact nx _ _ (pd1.off (fun b hb => o2 b (Or.inl hb))) pm2
theorem w_compare (hL : jL X < 2 ^ 31) (hi : i + 7 ≤ jL X) (pd : DeskAt h D) (pm : moAt h D) (nx : ∀ (h' : HF) (D' : DS), DeskAt h' D' → moAt h' D' → J X RL cL_law 4 8 (some .boolean) lawQ 1204 [some (.ref 2000), some (.ref 0), some (.ref 51), some (.int (nI i))] [] h') : J X RL cL_law 4 8 (some .boolean) lawQ 817 [some (.ref 2000), some (.ref 0), some (.ref 51), some (.int (nI i))] [] h := by
  obtain ⟨v, D1, q1, q2⟩ := p_compare (D := D) (jx X (i + 1)) (jx X (i + 2))
  obtain ⟨fs0, hc0⟩ := dk_cell pd
  refine J_aload_1 dL_law_817 ?_
  refine J_aload_0 dL_law_818 ?_
  refine J_iload_3 dL_law_819 ?_
  refine J_iconst (v := nI 1) dL_law_820 (by decide) ?_
  first | refine J_iaddN dL_law_821 ?_ | refine J_iadd dL_law_821 ?_
  refine J_sld dL_law_822 rfl (by omega) (by omega) ?_
  refine J_aload_0 dL_law_823 ?_
  refine J_iload_3 dL_law_824 ?_
  refine J_iconst (v := nI 2) dL_law_825 (by decide) ?_
  first | refine J_iaddN dL_law_826 ?_ | refine J_iadd dL_law_826 ?_
  refine J_sld dL_law_827 rfl (by omega) (by omega) ?_
  refine J_cV2 dL_law_828 jmX6_compare mv_L_87 hc0 rfl (Nat.le_of_ble_eq_true rfl) (by decide) (q1 X h pd) (fun r h' q => ?_)
  obtain ⟨rfl, pd1, o1⟩ := q
  have pm1 := pm.off (fun b lo hi => o1 b (Or.inr lo))
  obtain ⟨fs1, hm1⟩ := mo_cell pm1
  refine J_aload_2 dL_law_831 ?_
  refine J_aload_0 dL_law_832 ?_
  refine J_iload_3 dL_law_833 ?_
  refine J_iconst (v := nI 1) dL_law_834 (by decide) ?_
  first | refine J_iaddN dL_law_835 ?_ | refine J_iadd dL_law_835 ?_
  refine J_sld dL_law_836 rfl (by omega) (by omega) ?_
  refine J_aload_0 dL_law_837 ?_
  refine J_iload_3 dL_law_838 ?_
  refine J_iconst (v := nI 2) dL_law_839 (by decide) ?_
  first | refine J_iaddN dL_law_840 ?_ | refine J_iadd dL_law_840 ?_
  refine J_sld dL_law_841 rfl (by omega) (by omega) ?_
  refine J_cV2 dL_law_842 jmX7_compare mv_L_90 hm1 rfl (Nat.le_of_ble_eq_true rfl) (by decide) (q2 X _ pm1) (fun r h' q => ?_)
  obtain ⟨rfl, pm2, o2⟩ := q
  refine J_icmp_eq (tgt := 1204) dL_law_845 (by decide) (fun _ => ?_) (fun c => absurd rfl c)
  exact nx _ _ (pd1.off (fun b hb => o2 b (Or.inl hb))) pm2
theorem w_gone (hL : jL X < 2 ^ 31) (hi : i + 7 ≤ jL X) (pd : DeskAt h D) (pm : moAt h D) (nx : ∀ (h' : HF) (D' : DS), DeskAt h' D' → moAt h' D' → J X RL cL_law 4 8 (some .boolean) lawQ 1204 [some (.ref 2000), some (.ref 0), some (.ref 51), some (.int (nI i))] [] h') : J X RL cL_law 4 8 (some .boolean) lawQ 850 [some (.ref 2000), some (.ref 0), some (.ref 51), some (.int (nI i))] [] h := by
  obtain ⟨v, D1, q1, q2⟩ := p_gone (D := D)
  obtain ⟨fs0, hc0⟩ := dk_cell pd
  refine J_aload_1 dL_law_850 ?_
  refine J_cV0 dL_law_851 jmX6_gone mv_L_91 hc0 rfl (Nat.le_of_ble_eq_true rfl) (by decide) (q1 X h pd) (fun r h' q => ?_)
  obtain ⟨rfl, pd1, o1⟩ := q
  have pm1 := pm.off (fun b lo hi => o1 b (Or.inr lo))
  obtain ⟨fs1, hm1⟩ := mo_cell pm1
  refine J_aload_2 dL_law_854 ?_
  refine J_cV0 dL_law_855 jmX7_gone mv_L_94 hm1 rfl (Nat.le_of_ble_eq_true rfl) (by decide) (q2 X _ pm1) (fun r h' q => ?_)
  obtain ⟨rfl, pm2, o2⟩ := q
  refine J_icmp_eq (tgt := 1204) dL_law_858 (by decide) (fun _ => ?_) (fun c => absurd rfl c)
  exact nx _ _ (pd1.off (fun b hb => o2 b (Or.inl hb))) pm2
theorem w_anew (hL : jL X < 2 ^ 31) (hi : i + 7 ≤ jL X) (pd : DeskAt h D) (pm : moAt h D) (nx : ∀ (h' : HF) (D' : DS), DeskAt h' D' → moAt h' D' → J X RL cL_law 4 8 (some .boolean) lawQ 1204 [some (.ref 2000), some (.ref 0), some (.ref 51), some (.int (nI i))] [] h') : J X RL cL_law 4 8 (some .boolean) lawQ 863 [some (.ref 2000), some (.ref 0), some (.ref 51), some (.int (nI i))] [] h := by
  obtain ⟨v, D1, q1, q2⟩ := p_anew (D := D) (jx X (i + 1))
  obtain ⟨fs0, hc0⟩ := dk_cell pd
  refine J_aload_1 dL_law_863 ?_
  refine J_aload_0 dL_law_864 ?_
  refine J_iload_3 dL_law_865 ?_
  refine J_iconst (v := nI 1) dL_law_866 (by decide) ?_
  first | refine J_iaddN dL_law_867 ?_ | refine J_iadd dL_law_867 ?_
  refine J_sld dL_law_868 rfl (by omega) (by omega) ?_
  refine J_cV1 dL_law_869 jmX6_anew mv_L_95 hc0 rfl (Nat.le_of_ble_eq_true rfl) (by decide) (q1 X h pd) (fun r h' q => ?_)
  obtain ⟨rfl, pd1, o1⟩ := q
  have pm1 := pm.off (fun b lo hi => o1 b (Or.inr lo))
  obtain ⟨fs1, hm1⟩ := mo_cell pm1
  refine J_aload_2 dL_law_872 ?_
  refine J_aload_0 dL_law_873 ?_
  refine J_iload_3 dL_law_874 ?_
  refine J_iconst (v := nI 1) dL_law_875 (by decide) ?_
  first | refine J_iaddN dL_law_876 ?_ | refine J_iadd dL_law_876 ?_
  refine J_sld dL_law_877 rfl (by omega) (by omega) ?_
  refine J_cV1 dL_law_878 jmX7_anew mv_L_98 hm1 rfl (Nat.le_of_ble_eq_true rfl) (by decide) (q2 X _ pm1) (fun r h' q => ?_)
  obtain ⟨rfl, pm2, o2⟩ := q
  refine J_icmp_eq (tgt := 1204) dL_law_881 (by decide) (fun _ => ?_) (fun c => absurd rfl c)
  exact nx _ _ (pd1.off (fun b hb => o2 b (Or.inl hb))) pm2
theorem w_saving (hL : jL X < 2 ^ 31) (hi : i + 7 ≤ jL X) (pd : DeskAt h D) (pm : moAt h D) (nx : ∀ (h' : HF) (D' : DS), DeskAt h' D' → moAt h' D' → J X RL cL_law 4 8 (some .boolean) lawQ 1204 [some (.ref 2000), some (.ref 0), some (.ref 51), some (.int (nI i))] [] h') : J X RL cL_law 4 8 (some .boolean) lawQ 886 [some (.ref 2000), some (.ref 0), some (.ref 51), some (.int (nI i))] [] h := by
  obtain ⟨v, D1, q1, q2⟩ := p_saving (D := D) (jx X (i + 1))
  obtain ⟨fs0, hc0⟩ := dk_cell pd
  refine J_aload_1 dL_law_886 ?_
  refine J_aload_0 dL_law_887 ?_
  refine J_iload_3 dL_law_888 ?_
  refine J_iconst (v := nI 1) dL_law_889 (by decide) ?_
  first | refine J_iaddN dL_law_890 ?_ | refine J_iadd dL_law_890 ?_
  refine J_sld dL_law_891 rfl (by omega) (by omega) ?_
  refine J_cV1 dL_law_892 jmX6_saving mv_L_99 hc0 rfl (Nat.le_of_ble_eq_true rfl) (by decide) (q1 X h pd) (fun r h' q => ?_)
  obtain ⟨rfl, pd1, o1⟩ := q
  have pm1 := pm.off (fun b lo hi => o1 b (Or.inr lo))
  obtain ⟨fs1, hm1⟩ := mo_cell pm1
  refine J_aload_2 dL_law_895 ?_
  refine J_aload_0 dL_law_896 ?_
  refine J_iload_3 dL_law_897 ?_
  refine J_iconst (v := nI 1) dL_law_898 (by decide) ?_
  first | refine J_iaddN dL_law_899 ?_ | refine J_iadd dL_law_899 ?_
  refine J_sld dL_law_900 rfl (by omega) (by omega) ?_
  refine J_cV1 dL_law_901 jmX7_saving mv_L_102 hm1 rfl (Nat.le_of_ble_eq_true rfl) (by decide) (q2 X _ pm1) (fun r h' q => ?_)
  obtain ⟨rfl, pm2, o2⟩ := q
  refine J_icmp_eq (tgt := 1204) dL_law_904 (by decide) (fun _ => ?_) (fun c => absurd rfl c)
  exact nx _ _ (pd1.off (fun b hb => o2 b (Or.inl hb))) pm2
theorem w_sheet (hL : jL X < 2 ^ 31) (hi : i + 7 ≤ jL X) (pd : DeskAt h D) (pm : moAt h D) (nx : ∀ (h' : HF) (D' : DS), DeskAt h' D' → moAt h' D' → J X RL cL_law 4 8 (some .boolean) lawQ 1204 [some (.ref 2000), some (.ref 0), some (.ref 51), some (.int (nI i))] [] h') : J X RL cL_law 4 8 (some .boolean) lawQ 909 [some (.ref 2000), some (.ref 0), some (.ref 51), some (.int (nI i))] [] h := by
  obtain ⟨v, D1, q1, q2⟩ := p_sheet (D := D) (jx X (i + 1)) (jx X (i + 2)) (jx X (i + 3))
  obtain ⟨fs0, hc0⟩ := dk_cell pd
  refine J_aload_1 dL_law_909 ?_
  refine J_aload_0 dL_law_910 ?_
  refine J_iload_3 dL_law_911 ?_
  refine J_iconst (v := nI 1) dL_law_912 (by decide) ?_
  first | refine J_iaddN dL_law_913 ?_ | refine J_iadd dL_law_913 ?_
  refine J_sld dL_law_914 rfl (by omega) (by omega) ?_
  refine J_aload_0 dL_law_915 ?_
  refine J_iload_3 dL_law_916 ?_
  refine J_iconst (v := nI 2) dL_law_917 (by decide) ?_
  first | refine J_iaddN dL_law_918 ?_ | refine J_iadd dL_law_918 ?_
  refine J_sld dL_law_919 rfl (by omega) (by omega) ?_
  refine J_aload_0 dL_law_920 ?_
  refine J_iload_3 dL_law_921 ?_
  refine J_iconst (v := nI 3) dL_law_922 (by decide) ?_
  first | refine J_iaddN dL_law_923 ?_ | refine J_iadd dL_law_923 ?_
  refine J_sld dL_law_924 rfl (by omega) (by omega) ?_
  refine J_cV3 dL_law_925 jmX6_sheet mv_L_103 hc0 rfl (Nat.le_of_ble_eq_true rfl) (by decide) (q1 X h pd) (fun r h' q => ?_)
  obtain ⟨rfl, pd1, o1⟩ := q
  have pm1 := pm.off (fun b lo hi => o1 b (Or.inr lo))
  obtain ⟨fs1, hm1⟩ := mo_cell pm1
  refine J_aload_2 dL_law_928 ?_
  refine J_aload_0 dL_law_929 ?_
  refine J_iload_3 dL_law_930 ?_
  refine J_iconst (v := nI 1) dL_law_931 (by decide) ?_
  first | refine J_iaddN dL_law_932 ?_ | refine J_iadd dL_law_932 ?_
  refine J_sld dL_law_933 rfl (by omega) (by omega) ?_
  refine J_aload_0 dL_law_934 ?_
  refine J_iload_3 dL_law_935 ?_
  refine J_iconst (v := nI 2) dL_law_936 (by decide) ?_
  first | refine J_iaddN dL_law_937 ?_ | refine J_iadd dL_law_937 ?_
  refine J_sld dL_law_938 rfl (by omega) (by omega) ?_
  refine J_aload_0 dL_law_939 ?_
  refine J_iload_3 dL_law_940 ?_
  refine J_iconst (v := nI 3) dL_law_941 (by decide) ?_
  first | refine J_iaddN dL_law_942 ?_ | refine J_iadd dL_law_942 ?_
  refine J_sld dL_law_943 rfl (by omega) (by omega) ?_
  refine J_cV3 dL_law_944 jmX7_sheet mv_L_106 hm1 rfl (Nat.le_of_ble_eq_true rfl) (by decide) (q2 X _ pm1) (fun r h' q => ?_)
  obtain ⟨rfl, pm2, o2⟩ := q
  refine J_icmp_eq (tgt := 1204) dL_law_947 (by decide) (fun _ => ?_) (fun c => absurd rfl c)
  exact nx _ _ (pd1.off (fun b hb => o2 b (Or.inl hb))) pm2
theorem w_lose (hL : jL X < 2 ^ 31) (hi : i + 7 ≤ jL X) (pd : DeskAt h D) (pm : moAt h D) (nx : ∀ (h' : HF) (D' : DS), DeskAt h' D' → moAt h' D' → J X RL cL_law 4 8 (some .boolean) lawQ 1204 [some (.ref 2000), some (.ref 0), some (.ref 51), some (.int (nI i))] [] h') : J X RL cL_law 4 8 (some .boolean) lawQ 952 [some (.ref 2000), some (.ref 0), some (.ref 51), some (.int (nI i))] [] h := by
  obtain ⟨v, D1, q1, q2⟩ := p_lose (D := D) (jx X (i + 1))
  obtain ⟨fs0, hc0⟩ := dk_cell pd
  refine J_aload_1 dL_law_952 ?_
  refine J_aload_0 dL_law_953 ?_
  refine J_iload_3 dL_law_954 ?_
  refine J_iconst (v := nI 1) dL_law_955 (by decide) ?_
  first | refine J_iaddN dL_law_956 ?_ | refine J_iadd dL_law_956 ?_
  refine J_sld dL_law_957 rfl (by omega) (by omega) ?_
  refine J_cV1 dL_law_958 jmX6_lose mv_L_107 hc0 rfl (Nat.le_of_ble_eq_true rfl) (by decide) (q1 X h pd) (fun r h' q => ?_)
  obtain ⟨rfl, pd1, o1⟩ := q
  have pm1 := pm.off (fun b lo hi => o1 b (Or.inr lo))
  obtain ⟨fs1, hm1⟩ := mo_cell pm1
  refine J_aload_2 dL_law_961 ?_
  refine J_aload_0 dL_law_962 ?_
  refine J_iload_3 dL_law_963 ?_
  refine J_iconst (v := nI 1) dL_law_964 (by decide) ?_
  first | refine J_iaddN dL_law_965 ?_ | refine J_iadd dL_law_965 ?_
  refine J_sld dL_law_966 rfl (by omega) (by omega) ?_
  refine J_cV1 dL_law_967 jmX7_lose mv_L_110 hm1 rfl (Nat.le_of_ble_eq_true rfl) (by decide) (q2 X _ pm1) (fun r h' q => ?_)
  obtain ⟨rfl, pm2, o2⟩ := q
  refine J_icmp_eq (tgt := 1204) dL_law_970 (by decide) (fun _ => ?_) (fun c => absurd rfl c)
  exact nx _ _ (pd1.off (fun b hb => o2 b (Or.inl hb))) pm2
theorem w_put (hL : jL X < 2 ^ 31) (hi : i + 7 ≤ jL X) (pd : DeskAt h D) (pm : moAt h D) (nx : ∀ (h' : HF) (D' : DS), DeskAt h' D' → moAt h' D' → J X RL cL_law 4 8 (some .boolean) lawQ 1204 [some (.ref 2000), some (.ref 0), some (.ref 51), some (.int (nI i))] [] h') : J X RL cL_law 4 8 (some .boolean) lawQ 975 [some (.ref 2000), some (.ref 0), some (.ref 51), some (.int (nI i))] [] h := by
  obtain ⟨v, D1, q1, q2⟩ := p_put (D := D) pd.dok (jx X (i + 1)) (jx X (i + 2)) (jx X (i + 3)) (jx X (i + 4))
  obtain ⟨fs0, hc0⟩ := dk_cell pd
  refine J_aload_1 dL_law_975 ?_
  refine J_aload_0 dL_law_976 ?_
  refine J_iload_3 dL_law_977 ?_
  refine J_iconst (v := nI 1) dL_law_978 (by decide) ?_
  first | refine J_iaddN dL_law_979 ?_ | refine J_iadd dL_law_979 ?_
  refine J_sld dL_law_980 rfl (by omega) (by omega) ?_
  refine J_aload_0 dL_law_981 ?_
  refine J_iload_3 dL_law_982 ?_
  refine J_iconst (v := nI 2) dL_law_983 (by decide) ?_
  first | refine J_iaddN dL_law_984 ?_ | refine J_iadd dL_law_984 ?_
  refine J_sld dL_law_985 rfl (by omega) (by omega) ?_
  refine J_aload_0 dL_law_986 ?_
  refine J_iload_3 dL_law_987 ?_
  refine J_iconst (v := nI 3) dL_law_988 (by decide) ?_
  first | refine J_iaddN dL_law_989 ?_ | refine J_iadd dL_law_989 ?_
  refine J_sld dL_law_990 rfl (by omega) (by omega) ?_
  refine J_aload_0 dL_law_991 ?_
  refine J_iload_3 dL_law_992 ?_
  refine J_iconst (v := nI 4) dL_law_993 (by decide) ?_
  first | refine J_iaddN dL_law_994 ?_ | refine J_iadd dL_law_994 ?_
  refine J_sld dL_law_995 rfl (by omega) (by omega) ?_
  refine J_cV4 dL_law_996 jmX6_put mv_L_111 hc0 rfl (Nat.le_of_ble_eq_true rfl) (by decide) (q1 X h pd) (fun r h' q => ?_)
  obtain ⟨rfl, pd1, o1⟩ := q
  have pm1 := pm.off (fun b lo hi => o1 b (Or.inr lo))
  obtain ⟨fs1, hm1⟩ := mo_cell pm1
  refine J_aload_2 dL_law_999 ?_
  refine J_aload_0 dL_law_1000 ?_
  refine J_iload_3 dL_law_1001 ?_
  refine J_iconst (v := nI 1) dL_law_1002 (by decide) ?_
  first | refine J_iaddN dL_law_1003 ?_ | refine J_iadd dL_law_1003 ?_
  refine J_sld dL_law_1004 rfl (by omega) (by omega) ?_
  refine J_aload_0 dL_law_1005 ?_
  refine J_iload_3 dL_law_1006 ?_
  refine J_iconst (v := nI 2) dL_law_1007 (by decide) ?_
  first | refine J_iaddN dL_law_1008 ?_ | refine J_iadd dL_law_1008 ?_
  refine J_sld dL_law_1009 rfl (by omega) (by omega) ?_
  refine J_aload_0 dL_law_1010 ?_
  refine J_iload_3 dL_law_1011 ?_
  refine J_iconst (v := nI 3) dL_law_1012 (by decide) ?_
  first | refine J_iaddN dL_law_1013 ?_ | refine J_iadd dL_law_1013 ?_
  refine J_sld dL_law_1014 rfl (by omega) (by omega) ?_
  refine J_aload_0 dL_law_1015 ?_
  refine J_iload_3 dL_law_1016 ?_
  refine J_iconst (v := nI 4) dL_law_1017 (by decide) ?_
  first | refine J_iaddN dL_law_1018 ?_ | refine J_iadd dL_law_1018 ?_
  refine J_sld dL_law_1019 rfl (by omega) (by omega) ?_
  refine J_cV4 dL_law_1020 jmX7_put mv_L_114 hm1 rfl (Nat.le_of_ble_eq_true rfl) (by decide) (q2 X _ pm1) (fun r h' q => ?_)
  obtain ⟨rfl, pm2, o2⟩ := q
  refine J_icmp_eq (tgt := 1204) dL_law_1023 (by decide) (fun _ => ?_) (fun c => absurd rfl c)
  exact nx _ _ (pd1.off (fun b hb => o2 b (Or.inl hb))) pm2
theorem w_get (hL : jL X < 2 ^ 31) (hi : i + 7 ≤ jL X) (pd : DeskAt h D) (pm : moAt h D) (nx : ∀ (h' : HF) (D' : DS), DeskAt h' D' → moAt h' D' → J X RL cL_law 4 8 (some .boolean) lawQ 1204 [some (.ref 2000), some (.ref 0), some (.ref 51), some (.int (nI i))] [] h') : J X RL cL_law 4 8 (some .boolean) lawQ 1028 [some (.ref 2000), some (.ref 0), some (.ref 51), some (.int (nI i))] [] h := by
  obtain ⟨v, D1, q1, q2⟩ := p_get (D := D) pd.dok (jx X (i + 1)) (jx X (i + 2)) (jx X (i + 3))
  obtain ⟨fs0, hc0⟩ := dk_cell pd
  refine J_aload_1 dL_law_1028 ?_
  refine J_aload_0 dL_law_1029 ?_
  refine J_iload_3 dL_law_1030 ?_
  refine J_iconst (v := nI 1) dL_law_1031 (by decide) ?_
  first | refine J_iaddN dL_law_1032 ?_ | refine J_iadd dL_law_1032 ?_
  refine J_sld dL_law_1033 rfl (by omega) (by omega) ?_
  refine J_aload_0 dL_law_1034 ?_
  refine J_iload_3 dL_law_1035 ?_
  refine J_iconst (v := nI 2) dL_law_1036 (by decide) ?_
  first | refine J_iaddN dL_law_1037 ?_ | refine J_iadd dL_law_1037 ?_
  refine J_sld dL_law_1038 rfl (by omega) (by omega) ?_
  refine J_aload_0 dL_law_1039 ?_
  refine J_iload_3 dL_law_1040 ?_
  refine J_iconst (v := nI 3) dL_law_1041 (by decide) ?_
  first | refine J_iaddN dL_law_1042 ?_ | refine J_iadd dL_law_1042 ?_
  refine J_sld dL_law_1043 rfl (by omega) (by omega) ?_
  refine J_cV3 dL_law_1044 jmX6_get mv_L_115 hc0 rfl (Nat.le_of_ble_eq_true rfl) (by decide) (q1 X h pd) (fun r h' q => ?_)
  obtain ⟨rfl, pd1, o1⟩ := q
  have pm1 := pm.off (fun b lo hi => o1 b (Or.inr lo))
  obtain ⟨fs1, hm1⟩ := mo_cell pm1
  refine J_aload_2 dL_law_1047 ?_
  refine J_aload_0 dL_law_1048 ?_
  refine J_iload_3 dL_law_1049 ?_
  refine J_iconst (v := nI 1) dL_law_1050 (by decide) ?_
  first | refine J_iaddN dL_law_1051 ?_ | refine J_iadd dL_law_1051 ?_
  refine J_sld dL_law_1052 rfl (by omega) (by omega) ?_
  refine J_aload_0 dL_law_1053 ?_
  refine J_iload_3 dL_law_1054 ?_
  refine J_iconst (v := nI 2) dL_law_1055 (by decide) ?_
  first | refine J_iaddN dL_law_1056 ?_ | refine J_iadd dL_law_1056 ?_
  refine J_sld dL_law_1057 rfl (by omega) (by omega) ?_
  refine J_aload_0 dL_law_1058 ?_
  refine J_iload_3 dL_law_1059 ?_
  refine J_iconst (v := nI 3) dL_law_1060 (by decide) ?_
  first | refine J_iaddN dL_law_1061 ?_ | refine J_iadd dL_law_1061 ?_
  refine J_sld dL_law_1062 rfl (by omega) (by omega) ?_
  refine J_cV3 dL_law_1063 jmX7_get mv_L_118 hm1 rfl (Nat.le_of_ble_eq_true rfl) (by decide) (q2 X _ pm1) (fun r h' q => ?_)
  obtain ⟨rfl, pm2, o2⟩ := q
  refine J_icmp_eq (tgt := 1204) dL_law_1066 (by decide) (fun _ => ?_) (fun c => absurd rfl c)
  exact nx _ _ (pd1.off (fun b hb => o2 b (Or.inl hb))) pm2
theorem w_copy (hL : jL X < 2 ^ 31) (hi : i + 7 ≤ jL X) (pd : DeskAt h D) (pm : moAt h D) (nx : ∀ (h' : HF) (D' : DS), DeskAt h' D' → moAt h' D' → J X RL cL_law 4 8 (some .boolean) lawQ 1204 [some (.ref 2000), some (.ref 0), some (.ref 51), some (.int (nI i))] [] h') : J X RL cL_law 4 8 (some .boolean) lawQ 1071 [some (.ref 2000), some (.ref 0), some (.ref 51), some (.int (nI i))] [] h := by
  obtain ⟨v, D1, q1, q2⟩ := p_copy (D := D) pd.dok (jx X (i + 1)) (jx X (i + 2)) (jx X (i + 3)) (jx X (i + 4)) (jx X (i + 5))
  obtain ⟨fs0, hc0⟩ := dk_cell pd
  refine J_aload_1 dL_law_1071 ?_
  refine J_aload_0 dL_law_1072 ?_
  refine J_iload_3 dL_law_1073 ?_
  refine J_iconst (v := nI 1) dL_law_1074 (by decide) ?_
  first | refine J_iaddN dL_law_1075 ?_ | refine J_iadd dL_law_1075 ?_
  refine J_sld dL_law_1076 rfl (by omega) (by omega) ?_
  refine J_aload_0 dL_law_1077 ?_
  refine J_iload_3 dL_law_1078 ?_
  refine J_iconst (v := nI 2) dL_law_1079 (by decide) ?_
  first | refine J_iaddN dL_law_1080 ?_ | refine J_iadd dL_law_1080 ?_
  refine J_sld dL_law_1081 rfl (by omega) (by omega) ?_
  refine J_aload_0 dL_law_1082 ?_
  refine J_iload_3 dL_law_1083 ?_
  refine J_iconst (v := nI 3) dL_law_1084 (by decide) ?_
  first | refine J_iaddN dL_law_1085 ?_ | refine J_iadd dL_law_1085 ?_
  refine J_sld dL_law_1086 rfl (by omega) (by omega) ?_
  refine J_aload_0 dL_law_1087 ?_
  refine J_iload_3 dL_law_1088 ?_
  refine J_iconst (v := nI 4) dL_law_1089 (by decide) ?_
  first | refine J_iaddN dL_law_1090 ?_ | refine J_iadd dL_law_1090 ?_
  refine J_sld dL_law_1091 rfl (by omega) (by omega) ?_
  refine J_aload_0 dL_law_1092 ?_
  refine J_iload_3 dL_law_1093 ?_
  refine J_iconst (v := nI 5) dL_law_1094 (by decide) ?_
  first | refine J_iaddN dL_law_1095 ?_ | refine J_iadd dL_law_1095 ?_
  refine J_sld dL_law_1096 rfl (by omega) (by omega) ?_
  refine J_cV5 dL_law_1097 jmX6_copy mv_L_119 hc0 rfl (Nat.le_of_ble_eq_true rfl) (by decide) (q1 X h pd) (fun r h' q => ?_)
  obtain ⟨rfl, pd1, o1⟩ := q
  have pm1 := pm.off (fun b lo hi => o1 b (Or.inr lo))
  obtain ⟨fs1, hm1⟩ := mo_cell pm1
  refine J_aload_2 dL_law_1100 ?_
  refine J_aload_0 dL_law_1101 ?_
  refine J_iload_3 dL_law_1102 ?_
  refine J_iconst (v := nI 1) dL_law_1103 (by decide) ?_
  first | refine J_iaddN dL_law_1104 ?_ | refine J_iadd dL_law_1104 ?_
  refine J_sld dL_law_1105 rfl (by omega) (by omega) ?_
  refine J_aload_0 dL_law_1106 ?_
  refine J_iload_3 dL_law_1107 ?_
  refine J_iconst (v := nI 2) dL_law_1108 (by decide) ?_
  first | refine J_iaddN dL_law_1109 ?_ | refine J_iadd dL_law_1109 ?_
  refine J_sld dL_law_1110 rfl (by omega) (by omega) ?_
  refine J_aload_0 dL_law_1111 ?_
  refine J_iload_3 dL_law_1112 ?_
  refine J_iconst (v := nI 3) dL_law_1113 (by decide) ?_
  first | refine J_iaddN dL_law_1114 ?_ | refine J_iadd dL_law_1114 ?_
  refine J_sld dL_law_1115 rfl (by omega) (by omega) ?_
  refine J_aload_0 dL_law_1116 ?_
  refine J_iload_3 dL_law_1117 ?_
  refine J_iconst (v := nI 4) dL_law_1118 (by decide) ?_
  first | refine J_iaddN dL_law_1119 ?_ | refine J_iadd dL_law_1119 ?_
  refine J_sld dL_law_1120 rfl (by omega) (by omega) ?_
  refine J_aload_0 dL_law_1121 ?_
  refine J_iload_3 dL_law_1122 ?_
  refine J_iconst (v := nI 5) dL_law_1123 (by decide) ?_
  first | refine J_iaddN dL_law_1124 ?_ | refine J_iadd dL_law_1124 ?_
  refine J_sld dL_law_1125 rfl (by omega) (by omega) ?_
  refine J_cV5 dL_law_1126 jmX7_copy mv_L_123 hm1 rfl (Nat.le_of_ble_eq_true rfl) (by decide) (q2 X _ pm1) (fun r h' q => ?_)
  obtain ⟨rfl, pm2, o2⟩ := q
  refine J_icmp_eq (tgt := 1204) dL_law_1129 (by decide) (fun _ => ?_) (fun c => absurd rfl c)
  exact nx _ _ (pd1.off (fun b hb => o2 b (Or.inl hb))) pm2
theorem w_write (hL : jL X < 2 ^ 31) (hi : i + 7 ≤ jL X) (pd : DeskAt h D) (pm : moAt h D) (nx : ∀ (h' : HF) (D' : DS), DeskAt h' D' → moAt h' D' → J X RL cL_law 4 8 (some .boolean) lawQ 1204 [some (.ref 2000), some (.ref 0), some (.ref 51), some (.int (nI i))] [] h') : J X RL cL_law 4 8 (some .boolean) lawQ 1134 [some (.ref 2000), some (.ref 0), some (.ref 51), some (.int (nI i))] [] h := by
  obtain ⟨v, D1, q1, q2⟩ := p_write (D := D) (jx X (i + 1)) (jx X (i + 2))
  obtain ⟨fs0, hc0⟩ := dk_cell pd
  refine J_aload_1 dL_law_1134 ?_
  refine J_aload_0 dL_law_1135 ?_
  refine J_iload_3 dL_law_1136 ?_
  refine J_iconst (v := nI 1) dL_law_1137 (by decide) ?_
  first | refine J_iaddN dL_law_1138 ?_ | refine J_iadd dL_law_1138 ?_
  refine J_sld dL_law_1139 rfl (by omega) (by omega) ?_
  refine J_aload_0 dL_law_1140 ?_
  refine J_iload_3 dL_law_1141 ?_
  refine J_iconst (v := nI 2) dL_law_1142 (by decide) ?_
  first | refine J_iaddN dL_law_1143 ?_ | refine J_iadd dL_law_1143 ?_
  refine J_sld dL_law_1144 rfl (by omega) (by omega) ?_
  refine J_cV2 dL_law_1145 jmX6_write mv_L_124 hc0 rfl (Nat.le_of_ble_eq_true rfl) (by decide) (q1 X h pd) (fun r h' q => ?_)
  obtain ⟨rfl, pd1, o1⟩ := q
  have pm1 := pm.off (fun b lo hi => o1 b (Or.inr lo))
  obtain ⟨fs1, hm1⟩ := mo_cell pm1
  refine J_aload_2 dL_law_1148 ?_
  refine J_aload_0 dL_law_1149 ?_
  refine J_iload_3 dL_law_1150 ?_
  refine J_iconst (v := nI 1) dL_law_1151 (by decide) ?_
  first | refine J_iaddN dL_law_1152 ?_ | refine J_iadd dL_law_1152 ?_
  refine J_sld dL_law_1153 rfl (by omega) (by omega) ?_
  refine J_aload_0 dL_law_1154 ?_
  refine J_iload_3 dL_law_1155 ?_
  refine J_iconst (v := nI 2) dL_law_1156 (by decide) ?_
  first | refine J_iaddN dL_law_1157 ?_ | refine J_iadd dL_law_1157 ?_
  refine J_sld dL_law_1158 rfl (by omega) (by omega) ?_
  refine J_cV2 dL_law_1159 jmX7_write mv_L_127 hm1 rfl (Nat.le_of_ble_eq_true rfl) (by decide) (q2 X _ pm1) (fun r h' q => ?_)
  obtain ⟨rfl, pm2, o2⟩ := q
  refine J_icmp_eq (tgt := 1204) dL_law_1162 (by decide) (fun _ => ?_) (fun c => absurd rfl c)
  exact nx _ _ (pd1.off (fun b hb => o2 b (Or.inl hb))) pm2
theorem w_count (hL : jL X < 2 ^ 31) (hi : i + 7 ≤ jL X) (pd : DeskAt h D) (pm : moAt h D) (nx : ∀ (h' : HF) (D' : DS), DeskAt h' D' → moAt h' D' → J X RL cL_law 4 8 (some .boolean) lawQ 1204 [some (.ref 2000), some (.ref 0), some (.ref 51), some (.int (nI i))] [] h') : J X RL cL_law 4 8 (some .boolean) lawQ 1167 [some (.ref 2000), some (.ref 0), some (.ref 51), some (.int (nI i))] [] h := by
  obtain ⟨v, D1, q1, q2⟩ := p_count (D := D) (jx X (i + 1))
  obtain ⟨fs0, hc0⟩ := dk_cell pd
  refine J_aload_1 dL_law_1167 ?_
  refine J_aload_0 dL_law_1168 ?_
  refine J_iload_3 dL_law_1169 ?_
  refine J_iconst (v := nI 1) dL_law_1170 (by decide) ?_
  first | refine J_iaddN dL_law_1171 ?_ | refine J_iadd dL_law_1171 ?_
  refine J_sld dL_law_1172 rfl (by omega) (by omega) ?_
  refine J_cV1 dL_law_1173 jmX6_count mv_L_128 hc0 rfl (Nat.le_of_ble_eq_true rfl) (by decide) (q1 X h pd) (fun r h' q => ?_)
  obtain ⟨rfl, pd1, o1⟩ := q
  have pm1 := pm.off (fun b lo hi => o1 b (Or.inr lo))
  obtain ⟨fs1, hm1⟩ := mo_cell pm1
  refine J_aload_2 dL_law_1176 ?_
  refine J_aload_0 dL_law_1177 ?_
  refine J_iload_3 dL_law_1178 ?_
  refine J_iconst (v := nI 1) dL_law_1179 (by decide) ?_
  first | refine J_iaddN dL_law_1180 ?_ | refine J_iadd dL_law_1180 ?_
  refine J_sld dL_law_1181 rfl (by omega) (by omega) ?_
  refine J_cV1 dL_law_1182 jmX7_count mv_L_131 hm1 rfl (Nat.le_of_ble_eq_true rfl) (by decide) (q2 X _ pm1) (fun r h' q => ?_)
  obtain ⟨rfl, pm2, o2⟩ := q
  refine J_icmp_eq (tgt := 1204) dL_law_1185 (by decide) (fun _ => ?_) (fun c => absurd rfl c)
  exact nx _ _ (pd1.off (fun b hb => o2 b (Or.inl hb))) pm2
theorem w_digest (hL : jL X < 2 ^ 31) (hi : i + 7 ≤ jL X) (pd : DeskAt h D) (pm : moAt h D) (nx : ∀ (h' : HF) (D' : DS), DeskAt h' D' → moAt h' D' → J X RL cL_law 4 8 (some .boolean) lawQ 1204 [some (.ref 2000), some (.ref 0), some (.ref 51), some (.int (nI i))] [] h') : J X RL cL_law 4 8 (some .boolean) lawQ 1190 [some (.ref 2000), some (.ref 0), some (.ref 51), some (.int (nI i))] [] h := by
  obtain ⟨ca, xs, pk⟩ := id pd
  obtain ⟨fs0, hc0⟩ := dk_cell pd
  refine J_aload_1 dL_law_1190 ?_
  refine J_cV0 dL_law_1191 jmX6_digest mv_L_132 hc0 rfl (Nat.le_of_ble_eq_true rfl) (by decide) (c_digest pk) (fun r h' q => ?_)
  obtain ⟨rfl, pk1, o1⟩ := q
  have pd1 : DeskAt _ D := ⟨ca, xs, pk1⟩
  have pm1 := pm.off (fun b lo hi => o1 b (Or.inr lo))
  obtain ⟨tb, F, pz⟩ := id pm1
  obtain ⟨fs1, hm1⟩ := mo_cell pm1
  refine J_aload_2 dL_law_1194 ?_
  refine J_cV0 dL_law_1195 jmX7_digest mv_L_136 hm1 rfl (Nat.le_of_ble_eq_true rfl) (by decide) (m_digest pz) (fun r h' q => ?_)
  obtain ⟨rfl, pm2, o2⟩ := q
  refine J_lcmp dL_law_1198 ?_
  refine J_if_eq (tgt := 1204) dL_law_1199 (by decide) (fun _ => ?_) (fun c => absurd (lg_self _) c)
  exact nx _ _ (pd1.off (fun b hb => o2 b (Or.inl hb))) pm2
theorem w_exit (hL : jL X < 2 ^ 31) (hi : i ≤ jL X) (hx : jL X < i + 7) : J X RL cL_law 4 8 (some .boolean) lawQ 18 [some (.ref 2000), some (.ref 0), some (.ref 51), some (.int (nI i))] [] h := by
  by_cases h7 : 7 ≤ jL X
  · refine J_iload_3 dL_law_18 ?_
    refine J_aload_0 dL_law_19 ?_
    refine J_slen dL_law_20 ?_
    refine J_bipush (v := nI 7) dL_law_21 (by decide) ?_
    refine J_isubN dL_law_23 (by omega) ?_
    refine J_icmp_gtN (tgt := 1210) dL_law_24 (by decide) (by omega) (by omega) (fun _ => ?_) (fun c => absurd c (by omega))
    refine J_iconst (v := nI 1) dL_law_1210 (by decide) ?_
    exact J_zret dL_law_1211 rfl (by first | exact Or.inl rfl | exact Or.inr rfl | exact bI_01 _) (rfl)
  · refine J_iload_3 dL_law_18 ?_
    refine J_aload_0 dL_law_19 ?_
    refine J_slen dL_law_20 ?_
    refine J_bipush (v := nI 7) dL_law_21 (by decide) ?_
    refine J_isub dL_law_23 ?_
    refine J_icmp_gt (tgt := 1210) dL_law_24 (by decide) (fun _ => ?_) (fun c => absurd (lt7 h7 (by omega)) c)
    refine J_iconst (v := nI 1) dL_law_1210 (by decide) ?_
    exact J_zret dL_law_1211 rfl (by first | exact Or.inl rfl | exact Or.inr rfl | exact bI_01 _) (rfl)
theorem l_law (hL : jL X ≤ 3584) : ∀ (k i : Nat) (h : HF) (D : DS), i ≤ jL X → jL X ≤ i + k → DeskAt h D → moAt h D → J X RL cL_law 4 8 (some .boolean) lawQ 18 [some (.ref 2000), some (.ref 0), some (.ref 51), some (.int (nI i))] [] h := by
  intro k
  induction k with
  | zero =>
    intro i h D hi hk pd pm
    exact w_exit (by omega) hi (by omega)
  | succ k ih =>
    intro i h D hi hk pd pm
    by_cases hx : jL X < i + 7
    · exact w_exit (by omega) hi hx
    have nx : ∀ (h' : HF) (D' : DS), DeskAt h' D' → moAt h' D' → J X RL cL_law 4 8 (some .boolean) lawQ 1204 [some (.ref 2000), some (.ref 0), some (.ref 51), some (.int (nI i))] [] h' := by
      intro h' D' pd' pm'
      refine J_iinc_3 dL_law_1204 (nI_7 i) (Nat.le_of_ble_eq_true rfl) rfl ?_
      refine J_goto (tgt := 18) dL_law_1207 (by decide) ?_
      exact ih (i + 7) h' D' (by omega) (by omega) pd' pm'
    obtain ⟨j, hj, ej⟩ := pk_andE (jx X i) (m := nI 31) 5 (by decide)
    have hL2 : jL X < 2 ^ 31 := by omega
    have hi2 : i + 7 ≤ jL X := by omega
    refine J_iload_3 dL_law_18 ?_
    refine J_aload_0 dL_law_19 ?_
    refine J_slen dL_law_20 ?_
    refine J_bipush (v := nI 7) dL_law_21 (by decide) ?_
    refine J_isubN dL_law_23 (by omega) ?_
    refine J_icmp_gtN (tgt := 1210) dL_law_24 (by decide) (by omega) (by omega) (fun c => absurd c (by omega)) (fun _ => ?_)
    refine J_aload_0 dL_law_27 ?_
    refine J_iload_3 dL_law_28 ?_
    refine J_sld dL_law_29 rfl (by omega) (by omega) ?_
    refine J_bipush (v := nI 31) dL_law_30 (by decide) ?_
    refine J_iand dL_law_32 ?_
    refine J_topi (b := nI j) ej ?_
    rcases (show j = 0 ∨ j = 1 ∨ j = 2 ∨ j = 3 ∨ j = 4 ∨ j = 5 ∨ j = 6 ∨ j = 7 ∨ j = 8 ∨ j = 9 ∨ j = 10 ∨ j = 11 ∨ j = 12 ∨ j = 13 ∨ j = 14 ∨ j = 15 ∨ j = 16 ∨ j = 17 ∨ j = 18 ∨ j = 19 ∨ j = 20 ∨ j = 21 ∨ j = 22 ∨ j = 23 ∨ j = 24 ∨ j = 25 ∨ j = 26 ∨ j = 27 ∨ j = 28 ∨ j = 29 ∨ j = 30 ∨ j = 31 by omega) with rfl | rfl | rfl | rfl | rfl | rfl | rfl | rfl | rfl | rfl | rfl | rfl | rfl | rfl | rfl | rfl | rfl | rfl | rfl | rfl | rfl | rfl | rfl | rfl | rfl | rfl | rfl | rfl | rfl | rfl | rfl | rfl
    · exact J_tabN (tgt := 164) dL_law_33 (by decide) (by decide) rfl (by decide) (w_edit hL2 hi2 pd pm nx)
    · exact J_tabN (tgt := 239) dL_law_33 (by decide) (by decide) rfl (by decide) (w_back hL2 hi2 pd pm nx)
    · exact J_tabN (tgt := 262) dL_law_33 (by decide) (by decide) rfl (by decide) (w_trim hL2 hi2 pd pm nx)
    · exact J_tabN (tgt := 315) dL_law_33 (by decide) (by decide) rfl (by decide) (w_set hL2 hi2 pd pm nx)
    · exact J_tabN (tgt := 348) dL_law_33 (by decide) (by decide) rfl (by decide) (w_reel hL2 hi2 pd pm nx)
    · exact J_tabN (tgt := 381) dL_law_33 (by decide) (by decide) rfl (by decide) (w_swap hL2 hi2 pd pm nx)
    · exact J_tabN (tgt := 394) dL_law_33 (by decide) (by decide) rfl (by decide) (w_read hL2 hi2 pd pm nx)
    · exact J_tabN (tgt := 427) dL_law_33 (by decide) (by decide) rfl (by decide) (w_info hL2 hi2 pd pm nx)
    · exact J_tabN (tgt := 470) dL_law_33 (by decide) (by decide) rfl (by decide) (w_shows hL2 hi2 pd pm nx)
    · exact J_tabN (tgt := 513) dL_law_33 (by decide) (by decide) rfl (by decide) (w_seen hL2 hi2 pd pm nx)
    · exact J_tabN (tgt := 566) dL_law_33 (by decide) (by decide) rfl (by decide) (w_still hL2 hi2 pd pm nx)
    · exact J_tabN (tgt := 609) dL_law_33 (by decide) (by decide) rfl (by decide) (w_told hL2 hi2 pd pm nx)
    · exact J_tabN (tgt := 642) dL_law_33 (by decide) (by decide) rfl (by decide) (w_number hL2 hi2 pd pm nx)
    · exact J_tabN (tgt := 695) dL_law_33 (by decide) (by decide) rfl (by decide) (w_pulls hL2 hi2 pd pm nx)
    · exact J_tabN (tgt := 718) dL_law_33 (by decide) (by decide) rfl (by decide) (w_pull hL2 hi2 pd pm nx)
    · exact J_tabN (tgt := 761) dL_law_33 (by decide) (by decide) rfl (by decide) (w_waste hL2 hi2 pd pm nx)
    · exact J_tabN (tgt := 784) dL_law_33 (by decide) (by decide) rfl (by decide) (w_total hL2 hi2 pd pm nx)
    · exact J_tabN (tgt := 817) dL_law_33 (by decide) (by decide) rfl (by decide) (w_compare hL2 hi2 pd pm nx)
    · exact J_tabN (tgt := 850) dL_law_33 (by decide) (by decide) rfl (by decide) (w_gone hL2 hi2 pd pm nx)
    · exact J_tabN (tgt := 863) dL_law_33 (by decide) (by decide) rfl (by decide) (w_anew hL2 hi2 pd pm nx)
    · exact J_tabN (tgt := 886) dL_law_33 (by decide) (by decide) rfl (by decide) (w_saving hL2 hi2 pd pm nx)
    · exact J_tabN (tgt := 909) dL_law_33 (by decide) (by decide) rfl (by decide) (w_sheet hL2 hi2 pd pm nx)
    · exact J_tabN (tgt := 952) dL_law_33 (by decide) (by decide) rfl (by decide) (w_lose hL2 hi2 pd pm nx)
    · exact J_tabN (tgt := 975) dL_law_33 (by decide) (by decide) rfl (by decide) (w_put hL2 hi2 pd pm nx)
    · exact J_tabN (tgt := 1028) dL_law_33 (by decide) (by decide) rfl (by decide) (w_get hL2 hi2 pd pm nx)
    · exact J_tabN (tgt := 1071) dL_law_33 (by decide) (by decide) rfl (by decide) (w_copy hL2 hi2 pd pm nx)
    · exact J_tabN (tgt := 1134) dL_law_33 (by decide) (by decide) rfl (by decide) (w_write hL2 hi2 pd pm nx)
    · exact J_tabN (tgt := 1167) dL_law_33 (by decide) (by decide) rfl (by decide) (w_count hL2 hi2 pd pm nx)
    · exact J_tabN (tgt := 1190) dL_law_33 (by decide) (by decide) rfl (by decide) (w_digest hL2 hi2 pd pm nx)
    · exact J_tabNo (tgt := 1204) dL_law_33 (by decide) (by decide) (by decide) (nx _ _ pd pm)
    · exact J_tabNo (tgt := 1204) dL_law_33 (by decide) (by decide) (by decide) (nx _ _ pd pm)
    · exact J_tabNo (tgt := 1204) dL_law_33 (by decide) (by decide) (by decide) (nx _ _ pd pm)
end
