set_option maxHeartbeats 1000000 in
set_option maxRecDepth 100000 in
theorem lw_juror (l : Launch) (G : Gm) (yn : String) (mc ms i : Nat) (Q : Pst) (hi : i + 6 ≤ g_sl G) (hb : g_sl G ≤ 3072) (K : Hp) (hI : INV K) (hgo : ∀ K2, INV K2 → AW l G (⟨RL, yn, "([I)Z"⟩ : MethodName) cL_law 4 (some FieldType.boolean) 155 mc ms Q mc ms 1415 [some (.ref 200000), some (.ref 0), some (.ref 86), some (.int (nI i))] [] LAY K2) : AW l G (⟨RL, yn, "([I)Z"⟩ : MethodName) cL_law 4 (some FieldType.boolean) 155 mc ms Q mc ms 212 [some (.ref 200000), some (.ref 0), some (.ref 86), some (.int (nI i))] [] LAY K := by
  have hINV := hI
  obtain ⟨N, n, hh, T, S, Z, C, H, A, B, E, wt, L, hI⟩ := hI
  have hJ := hI.1.2.1
  have hn := hJ.1
  have hN := hJ.2.1
  have hR := hI.1.2.2.1
  have hK := hJ.2.2.2.2.1
  have hDo := hJ.2.2.2.2.2.1
  have hWt := hJ.2.2.2.2.2.2.1
  have hTx := hJ.2.2.2.2.2.2.2.1
  have hLw := hI.1.2.2.2
  have h87 := hI.1.1
  have hsil := hI.2.2.2.2.2.2.1
  have hSh := hI.2.2.1
  have hSl := hI.2.2.2.1
  refine A_aload_n rfl dL_law_212 ?_
  refine A_aload_n rfl dL_law_213 ?_
  refine A_iload_n rfl dL_law_214 ?_
  refine A_iconst ic_1 dL_law_215 ?_
  refine A_iadd dL_law_216 ?_
  refine A_scld (i + 1) (ixc i 1) (by omega) (by omega) dL_law_217 ?_
  refine A_aload_n rfl dL_law_218 ?_
  refine A_iload_n rfl dL_law_219 ?_
  refine A_iconst ic_2 dL_law_220 ?_
  refine A_iadd dL_law_221 ?_
  refine A_scld (i + 2) (ixc i 2) (by omega) (by omega) dL_law_222 ?_
  refine A_aload_n rfl dL_law_223 ?_
  refine A_iload_n rfl dL_law_224 ?_
  refine A_iconst ic_3 dL_law_225 ?_
  refine A_iadd dL_law_226 ?_
  refine A_scld (i + 3) (ixc i 3) (by omega) (by omega) dL_law_227 ?_
  refine A_callV (c_juror l G K N n hn hN hR _ _ _) m_X7_juror ml_L_13 rfl lay_0 rfl (by decide) rfl rfl (Nat.le_of_ble_eq_true rfl) (by decide) (Nat.le_refl _) (Nat.le_refl _) dL_law_228 (fun _ _ _ hqq => congrArg List.length hqq.2.1) ?_
  rintro _ _ K1 ⟨rfl, rfl, hN1⟩
  have e87 : K1 87 = N := (hN1.2 87 (by decide)).trans h87
  refine A_aload_n rfl dL_law_231 ?_
  refine A_aload_n rfl dL_law_232 ?_
  refine A_iload_n rfl dL_law_233 ?_
  refine A_iconst ic_1 dL_law_234 ?_
  refine A_iadd dL_law_235 ?_
  refine A_scld (i + 1) (ixc i 1) (by omega) (by omega) dL_law_236 ?_
  refine A_aload_n rfl dL_law_237 ?_
  refine A_iload_n rfl dL_law_238 ?_
  refine A_iconst ic_2 dL_law_239 ?_
  refine A_iadd dL_law_240 ?_
  refine A_scld (i + 2) (ixc i 2) (by omega) (by omega) dL_law_241 ?_
  refine A_aload_n rfl dL_law_242 ?_
  refine A_iload_n rfl dL_law_243 ?_
  refine A_iconst ic_3 dL_law_244 ?_
  refine A_iadd dL_law_245 ?_
  refine A_scld (i + 3) (ixc i 3) (by omega) (by omega) dL_law_246 ?_
  refine A_callV (m_juror l G K1 N e87 n hn hN _ _ _) m_X8_juror ml_L_17 rfl lay_86 rfl (by decide) rfl rfl (Nat.le_of_ble_eq_true rfl) (by decide) (Nat.le_refl _) (Nat.le_refl _) dL_law_247 (fun _ _ _ hqq => congrArg List.length hqq.2.1) ?_
  rintro _ _ _ ⟨rfl, rfl, e9⟩
  refine AW_I e9 ?_
  clear e9
  exact A_icmp_eq 1415 rfl dL_law_250 (fun _ => hgo _ (hI.rowI hN1 (jw_juror hJ _ _ _))) (fun cq => absurd (rfl) cq)
set_option maxHeartbeats 1000000 in
set_option maxRecDepth 100000 in
theorem lw_told (l : Launch) (G : Gm) (yn : String) (mc ms i : Nat) (Q : Pst) (hi : i + 6 ≤ g_sl G) (hb : g_sl G ≤ 3072) (K : Hp) (hI : INV K) (hgo : ∀ K2, INV K2 → AW l G (⟨RL, yn, "([I)Z"⟩ : MethodName) cL_law 4 (some FieldType.boolean) 155 mc ms Q mc ms 1415 [some (.ref 200000), some (.ref 0), some (.ref 86), some (.int (nI i))] [] LAY K2) : AW l G (⟨RL, yn, "([I)Z"⟩ : MethodName) cL_law 4 (some FieldType.boolean) 155 mc ms Q mc ms 255 [some (.ref 200000), some (.ref 0), some (.ref 86), some (.int (nI i))] [] LAY K := by
  have hINV := hI
  obtain ⟨N, n, hh, T, S, Z, C, H, A, B, E, wt, L, hI⟩ := hI
  have hJ := hI.1.2.1
  have hn := hJ.1
  have hN := hJ.2.1
  have hR := hI.1.2.2.1
  have hK := hJ.2.2.2.2.1
  have hDo := hJ.2.2.2.2.2.1
  have hWt := hJ.2.2.2.2.2.2.1
  have hTx := hJ.2.2.2.2.2.2.2.1
  have hLw := hI.1.2.2.2
  have h87 := hI.1.1
  have hsil := hI.2.2.2.2.2.2.1
  have hSh := hI.2.2.1
  have hSl := hI.2.2.2.1
  refine A_aload_n rfl dL_law_255 ?_
  refine A_aload_n rfl dL_law_256 ?_
  refine A_iload_n rfl dL_law_257 ?_
  refine A_iconst ic_1 dL_law_258 ?_
  refine A_iadd dL_law_259 ?_
  refine A_scld (i + 1) (ixc i 1) (by omega) (by omega) dL_law_260 ?_
  refine A_aload_n rfl dL_law_261 ?_
  refine A_iload_n rfl dL_law_262 ?_
  refine A_iconst ic_2 dL_law_263 ?_
  refine A_iadd dL_law_264 ?_
  refine A_scld (i + 2) (ixc i 2) (by omega) (by omega) dL_law_265 ?_
  refine A_callV (c_told l G K N n hn hN hR T hK hTx hLw hDo _ _) m_X7_told ml_L_18 rfl lay_0 rfl (by decide) rfl rfl (Nat.le_of_ble_eq_true rfl) (by decide) (Nat.le_refl _) (Nat.le_refl _) dL_law_266 (fun _ _ _ hqq => congrArg List.length hqq.2.1) ?_
  rintro _ _ K1 ⟨rfl, rfl, hf1⟩
  have hI1 := hI.st hf1
  have e87 := hI1.1.1
  have s1 := hI1.2.2.2.2.2.2.1
  have sh1 := hI1.2.2.1
  refine A_aload_n rfl dL_law_269 ?_
  refine A_aload_n rfl dL_law_270 ?_
  refine A_iload_n rfl dL_law_271 ?_
  refine A_iconst ic_1 dL_law_272 ?_
  refine A_iadd dL_law_273 ?_
  refine A_scld (i + 1) (ixc i 1) (by omega) (by omega) dL_law_274 ?_
  refine A_aload_n rfl dL_law_275 ?_
  refine A_iload_n rfl dL_law_276 ?_
  refine A_iconst ic_2 dL_law_277 ?_
  refine A_iadd dL_law_278 ?_
  refine A_scld (i + 2) (ixc i 2) (by omega) (by omega) dL_law_279 ?_
  refine A_callV (m_told l G K1 N e87 n hn hN T hTx _ _) m_X8_told ml_L_22 rfl lay_86 rfl (by decide) rfl rfl (Nat.le_of_ble_eq_true rfl) (by decide) (Nat.le_refl _) (Nat.le_refl _) dL_law_280 (fun _ _ _ hqq => congrArg List.length hqq.2.1) ?_
  rintro _ _ K2 ⟨rfl, rfl, hf2⟩
  have hI2 := hI1.m1 hf2
  exact A_icmp_eq 1415 rfl dL_law_283 (fun _ => hgo _ (⟨_, _, _, _, _, _, _, _, _, _, _, _, _, hI2⟩)) (fun cq => absurd (rfl) cq)
set_option maxHeartbeats 1000000 in
set_option maxRecDepth 100000 in
theorem lw_tells (l : Launch) (G : Gm) (yn : String) (mc ms i : Nat) (Q : Pst) (hi : i + 6 ≤ g_sl G) (hb : g_sl G ≤ 3072) (K : Hp) (hI : INV K) (hgo : ∀ K2, INV K2 → AW l G (⟨RL, yn, "([I)Z"⟩ : MethodName) cL_law 4 (some FieldType.boolean) 155 mc ms Q mc ms 1415 [some (.ref 200000), some (.ref 0), some (.ref 86), some (.int (nI i))] [] LAY K2) : AW l G (⟨RL, yn, "([I)Z"⟩ : MethodName) cL_law 4 (some FieldType.boolean) 155 mc ms Q mc ms 288 [some (.ref 200000), some (.ref 0), some (.ref 86), some (.int (nI i))] [] LAY K := by
  have hINV := hI
  obtain ⟨N, n, hh, T, S, Z, C, H, A, B, E, wt, L, hI⟩ := hI
  have hJ := hI.1.2.1
  have hn := hJ.1
  have hN := hJ.2.1
  have hR := hI.1.2.2.1
  have hK := hJ.2.2.2.2.1
  have hDo := hJ.2.2.2.2.2.1
  have hWt := hJ.2.2.2.2.2.2.1
  have hTx := hJ.2.2.2.2.2.2.2.1
  have hLw := hI.1.2.2.2
  have h87 := hI.1.1
  have hsil := hI.2.2.2.2.2.2.1
  have hSh := hI.2.2.1
  have hSl := hI.2.2.2.1
  refine A_aload_n rfl dL_law_288 ?_
  refine A_aload_n rfl dL_law_289 ?_
  refine A_iload_n rfl dL_law_290 ?_
  refine A_iconst ic_1 dL_law_291 ?_
  refine A_iadd dL_law_292 ?_
  refine A_scld (i + 1) (ixc i 1) (by omega) (by omega) dL_law_293 ?_
  refine A_aload_n rfl dL_law_294 ?_
  refine A_iload_n rfl dL_law_295 ?_
  refine A_iconst ic_2 dL_law_296 ?_
  refine A_iadd dL_law_297 ?_
  refine A_scld (i + 2) (ixc i 2) (by omega) (by omega) dL_law_298 ?_
  refine A_callV (c_tells l G K N n hn hN hR hK _ _) m_X7_tells ml_L_23 rfl lay_0 rfl (by decide) rfl rfl (Nat.le_of_ble_eq_true rfl) (by decide) (Nat.le_refl _) (Nat.le_refl _) dL_law_299 (fun _ _ _ hqq => congrArg List.length hqq.2.1) ?_
  rintro _ _ _ ⟨rfl, rfl, e9⟩
  refine AW_I e9 ?_
  clear e9
  refine A_aload_n rfl dL_law_302 ?_
  refine A_aload_n rfl dL_law_303 ?_
  refine A_iload_n rfl dL_law_304 ?_
  refine A_iconst ic_1 dL_law_305 ?_
  refine A_iadd dL_law_306 ?_
  refine A_scld (i + 1) (ixc i 1) (by omega) (by omega) dL_law_307 ?_
  refine A_aload_n rfl dL_law_308 ?_
  refine A_iload_n rfl dL_law_309 ?_
  refine A_iconst ic_2 dL_law_310 ?_
  refine A_iadd dL_law_311 ?_
  refine A_scld (i + 2) (ixc i 2) (by omega) (by omega) dL_law_312 ?_
  refine A_callV (m_tells l G K N h87 n hn hN hsil _ _) m_X8_tells ml_L_26 rfl lay_86 rfl (by decide) rfl rfl (Nat.le_of_ble_eq_true rfl) (by decide) (Nat.le_refl _) (Nat.le_refl _) dL_law_313 (fun _ _ _ hqq => congrArg List.length hqq.2.1) ?_
  rintro _ _ _ ⟨rfl, rfl, e9⟩
  refine AW_I e9 ?_
  clear e9
  exact A_icmp_eq 1415 rfl dL_law_316 (fun _ => hgo _ (hINV)) (fun cq => absurd (rfl) cq)
set_option maxHeartbeats 1000000 in
set_option maxRecDepth 100000 in
theorem lw_as (l : Launch) (G : Gm) (yn : String) (mc ms i : Nat) (Q : Pst) (hi : i + 6 ≤ g_sl G) (hb : g_sl G ≤ 3072) (K : Hp) (hI : INV K) (hgo : ∀ K2, INV K2 → AW l G (⟨RL, yn, "([I)Z"⟩ : MethodName) cL_law 4 (some FieldType.boolean) 155 mc ms Q mc ms 1415 [some (.ref 200000), some (.ref 0), some (.ref 86), some (.int (nI i))] [] LAY K2) : AW l G (⟨RL, yn, "([I)Z"⟩ : MethodName) cL_law 4 (some FieldType.boolean) 155 mc ms Q mc ms 321 [some (.ref 200000), some (.ref 0), some (.ref 86), some (.int (nI i))] [] LAY K := by
  have hINV := hI
  obtain ⟨N, n, hh, T, S, Z, C, H, A, B, E, wt, L, hI⟩ := hI
  have hJ := hI.1.2.1
  have hn := hJ.1
  have hN := hJ.2.1
  have hR := hI.1.2.2.1
  have hK := hJ.2.2.2.2.1
  have hDo := hJ.2.2.2.2.2.1
  have hWt := hJ.2.2.2.2.2.2.1
  have hTx := hJ.2.2.2.2.2.2.2.1
  have hLw := hI.1.2.2.2
  have h87 := hI.1.1
  have hsil := hI.2.2.2.2.2.2.1
  have hSh := hI.2.2.1
  have hSl := hI.2.2.2.1
  refine A_aload_n rfl dL_law_321 ?_
  refine A_aload_n rfl dL_law_322 ?_
  refine A_iload_n rfl dL_law_323 ?_
  refine A_iconst ic_1 dL_law_324 ?_
  refine A_iadd dL_law_325 ?_
  refine A_scld (i + 1) (ixc i 1) (by omega) (by omega) dL_law_326 ?_
  refine A_aload_n rfl dL_law_327 ?_
  refine A_iload_n rfl dL_law_328 ?_
  refine A_iconst ic_2 dL_law_329 ?_
  refine A_iadd dL_law_330 ?_
  refine A_scld (i + 2) (ixc i 2) (by omega) (by omega) dL_law_331 ?_
  refine A_callV (c_as l G K N n hn hN hR _ _) m_X7_as ml_L_27 rfl lay_0 rfl (by decide) rfl rfl (Nat.le_of_ble_eq_true rfl) (by decide) (Nat.le_refl _) (Nat.le_refl _) dL_law_332 (fun _ _ _ hqq => congrArg List.length hqq.2.1) ?_
  rintro _ _ _ ⟨rfl, rfl, e9⟩
  refine AW_I e9 ?_
  clear e9
  refine A_aload_n rfl dL_law_335 ?_
  refine A_aload_n rfl dL_law_336 ?_
  refine A_iload_n rfl dL_law_337 ?_
  refine A_iconst ic_1 dL_law_338 ?_
  refine A_iadd dL_law_339 ?_
  refine A_scld (i + 1) (ixc i 1) (by omega) (by omega) dL_law_340 ?_
  refine A_aload_n rfl dL_law_341 ?_
  refine A_iload_n rfl dL_law_342 ?_
  refine A_iconst ic_2 dL_law_343 ?_
  refine A_iadd dL_law_344 ?_
  refine A_scld (i + 2) (ixc i 2) (by omega) (by omega) dL_law_345 ?_
  refine A_callV (m_as l G K N h87 n hn hN _ _) m_X8_as ml_L_30 rfl lay_86 rfl (by decide) rfl rfl (Nat.le_of_ble_eq_true rfl) (by decide) (Nat.le_refl _) (Nat.le_refl _) dL_law_346 (fun _ _ _ hqq => congrArg List.length hqq.2.1) ?_
  rintro _ _ _ ⟨rfl, rfl, e9⟩
  refine AW_I e9 ?_
  clear e9
  exact A_icmp_eq 1415 rfl dL_law_349 (fun _ => hgo _ (hINV)) (fun cq => absurd (rfl) cq)
set_option maxHeartbeats 1000000 in
set_option maxRecDepth 100000 in
theorem lw_turns (l : Launch) (G : Gm) (yn : String) (mc ms i : Nat) (Q : Pst) (hi : i + 6 ≤ g_sl G) (hb : g_sl G ≤ 3072) (K : Hp) (hI : INV K) (hgo : ∀ K2, INV K2 → AW l G (⟨RL, yn, "([I)Z"⟩ : MethodName) cL_law 4 (some FieldType.boolean) 155 mc ms Q mc ms 1415 [some (.ref 200000), some (.ref 0), some (.ref 86), some (.int (nI i))] [] LAY K2) : AW l G (⟨RL, yn, "([I)Z"⟩ : MethodName) cL_law 4 (some FieldType.boolean) 155 mc ms Q mc ms 354 [some (.ref 200000), some (.ref 0), some (.ref 86), some (.int (nI i))] [] LAY K := by
  have hINV := hI
  obtain ⟨N, n, hh, T, S, Z, C, H, A, B, E, wt, L, hI⟩ := hI
  have hJ := hI.1.2.1
  have hn := hJ.1
  have hN := hJ.2.1
  have hR := hI.1.2.2.1
  have hK := hJ.2.2.2.2.1
  have hDo := hJ.2.2.2.2.2.1
  have hWt := hJ.2.2.2.2.2.2.1
  have hTx := hJ.2.2.2.2.2.2.2.1
  have hLw := hI.1.2.2.2
  have h87 := hI.1.1
  have hsil := hI.2.2.2.2.2.2.1
  have hSh := hI.2.2.1
  have hSl := hI.2.2.2.1
  refine A_aload_n rfl dL_law_354 ?_
  refine A_aload_n rfl dL_law_355 ?_
  refine A_iload_n rfl dL_law_356 ?_
  refine A_iconst ic_1 dL_law_357 ?_
  refine A_iadd dL_law_358 ?_
  refine A_scld (i + 1) (ixc i 1) (by omega) (by omega) dL_law_359 ?_
  refine A_aload_n rfl dL_law_360 ?_
  refine A_iload_n rfl dL_law_361 ?_
  refine A_iconst ic_2 dL_law_362 ?_
  refine A_iadd dL_law_363 ?_
  refine A_scld (i + 2) (ixc i 2) (by omega) (by omega) dL_law_364 ?_
  refine A_callV (c_turns l G K N n hn hN hR _ _) m_X7_turns ml_L_31 rfl lay_0 rfl (by decide) rfl rfl (Nat.le_of_ble_eq_true rfl) (by decide) (Nat.le_refl _) (Nat.le_refl _) dL_law_365 (fun _ _ _ hqq => congrArg List.length hqq.2.1) ?_
  rintro _ _ K1 ⟨rfl, rfl, hN1⟩
  have e87 : K1 87 = N := (hN1.2 87 (by decide)).trans h87
  refine A_aload_n rfl dL_law_368 ?_
  refine A_aload_n rfl dL_law_369 ?_
  refine A_iload_n rfl dL_law_370 ?_
  refine A_iconst ic_1 dL_law_371 ?_
  refine A_iadd dL_law_372 ?_
  refine A_scld (i + 1) (ixc i 1) (by omega) (by omega) dL_law_373 ?_
  refine A_aload_n rfl dL_law_374 ?_
  refine A_iload_n rfl dL_law_375 ?_
  refine A_iconst ic_2 dL_law_376 ?_
  refine A_iadd dL_law_377 ?_
  refine A_scld (i + 2) (ixc i 2) (by omega) (by omega) dL_law_378 ?_
  refine A_callV (m_turns l G K1 N e87 n hn hN _ _) m_X8_turns ml_L_34 rfl lay_86 rfl (by decide) rfl rfl (Nat.le_of_ble_eq_true rfl) (by decide) (Nat.le_refl _) (Nat.le_refl _) dL_law_379 (fun _ _ _ hqq => congrArg List.length hqq.2.1) ?_
  rintro _ _ _ ⟨rfl, rfl, e9⟩
  refine AW_I e9 ?_
  clear e9
  exact A_icmp_eq 1415 rfl dL_law_382 (fun _ => hgo _ (hI.rowI hN1 (jw_turns hJ _ _))) (fun cq => absurd (rfl) cq)
set_option maxHeartbeats 1000000 in
set_option maxRecDepth 100000 in
theorem lw_set (l : Launch) (G : Gm) (yn : String) (mc ms i : Nat) (Q : Pst) (hi : i + 6 ≤ g_sl G) (hb : g_sl G ≤ 3072) (K : Hp) (hI : INV K) (hgo : ∀ K2, INV K2 → AW l G (⟨RL, yn, "([I)Z"⟩ : MethodName) cL_law 4 (some FieldType.boolean) 155 mc ms Q mc ms 1415 [some (.ref 200000), some (.ref 0), some (.ref 86), some (.int (nI i))] [] LAY K2) : AW l G (⟨RL, yn, "([I)Z"⟩ : MethodName) cL_law 4 (some FieldType.boolean) 155 mc ms Q mc ms 387 [some (.ref 200000), some (.ref 0), some (.ref 86), some (.int (nI i))] [] LAY K := by
  have hINV := hI
  obtain ⟨N, n, hh, T, S, Z, C, H, A, B, E, wt, L, hI⟩ := hI
  have hJ := hI.1.2.1
  have hn := hJ.1
  have hN := hJ.2.1
  have hR := hI.1.2.2.1
  have hK := hJ.2.2.2.2.1
  have hDo := hJ.2.2.2.2.2.1
  have hWt := hJ.2.2.2.2.2.2.1
  have hTx := hJ.2.2.2.2.2.2.2.1
  have hLw := hI.1.2.2.2
  have h87 := hI.1.1
  have hsil := hI.2.2.2.2.2.2.1
  have hSh := hI.2.2.1
  have hSl := hI.2.2.2.1
  refine A_aload_n rfl dL_law_387 ?_
  refine A_aload_n rfl dL_law_388 ?_
  refine A_iload_n rfl dL_law_389 ?_
  refine A_iconst ic_1 dL_law_390 ?_
  refine A_iadd dL_law_391 ?_
  refine A_scld (i + 1) (ixc i 1) (by omega) (by omega) dL_law_392 ?_
  refine A_aload_n rfl dL_law_393 ?_
  refine A_iload_n rfl dL_law_394 ?_
  refine A_iconst ic_2 dL_law_395 ?_
  refine A_iadd dL_law_396 ?_
  refine A_scld (i + 2) (ixc i 2) (by omega) (by omega) dL_law_397 ?_
  refine A_aload_n rfl dL_law_398 ?_
  refine A_iload_n rfl dL_law_399 ?_
  refine A_iconst ic_3 dL_law_400 ?_
  refine A_iadd dL_law_401 ?_
  refine A_scld (i + 3) (ixc i 3) (by omega) (by omega) dL_law_402 ?_
  refine A_callV (c_set l G K N n hn hN hR _ _ _) m_X7_set ml_L_35 rfl lay_0 rfl (by decide) rfl rfl (Nat.le_of_ble_eq_true rfl) (by decide) (Nat.le_refl _) (Nat.le_refl _) dL_law_403 (fun _ _ _ hqq => congrArg List.length hqq.2.1) ?_
  rintro _ _ K1 ⟨rfl, rfl, hN1⟩
  have e87 : K1 87 = N := (hN1.2 87 (by decide)).trans h87
  refine A_aload_n rfl dL_law_406 ?_
  refine A_aload_n rfl dL_law_407 ?_
  refine A_iload_n rfl dL_law_408 ?_
  refine A_iconst ic_1 dL_law_409 ?_
  refine A_iadd dL_law_410 ?_
  refine A_scld (i + 1) (ixc i 1) (by omega) (by omega) dL_law_411 ?_
  refine A_aload_n rfl dL_law_412 ?_
  refine A_iload_n rfl dL_law_413 ?_
  refine A_iconst ic_2 dL_law_414 ?_
  refine A_iadd dL_law_415 ?_
  refine A_scld (i + 2) (ixc i 2) (by omega) (by omega) dL_law_416 ?_
  refine A_aload_n rfl dL_law_417 ?_
  refine A_iload_n rfl dL_law_418 ?_
  refine A_iconst ic_3 dL_law_419 ?_
  refine A_iadd dL_law_420 ?_
  refine A_scld (i + 3) (ixc i 3) (by omega) (by omega) dL_law_421 ?_
  refine A_callV (m_set l G K1 N e87 n hn hN _ _ _) m_X8_set ml_L_38 rfl lay_86 rfl (by decide) rfl rfl (Nat.le_of_ble_eq_true rfl) (by decide) (Nat.le_refl _) (Nat.le_refl _) dL_law_422 (fun _ _ _ hqq => congrArg List.length hqq.2.1) ?_
  rintro _ _ _ ⟨rfl, rfl, e9⟩
  refine AW_I e9 ?_
  clear e9
  exact A_icmp_eq 1415 rfl dL_law_425 (fun _ => hgo _ (hI.rowI hN1 (jw_set hJ _ _ _))) (fun cq => absurd (rfl) cq)
set_option maxHeartbeats 1000000 in
set_option maxRecDepth 100000 in
theorem lw_weigh (l : Launch) (G : Gm) (yn : String) (mc ms i : Nat) (Q : Pst) (hi : i + 6 ≤ g_sl G) (hb : g_sl G ≤ 3072) (K : Hp) (hI : INV K) (hgo : ∀ K2, INV K2 → AW l G (⟨RL, yn, "([I)Z"⟩ : MethodName) cL_law 4 (some FieldType.boolean) 155 mc ms Q mc ms 1415 [some (.ref 200000), some (.ref 0), some (.ref 86), some (.int (nI i))] [] LAY K2) : AW l G (⟨RL, yn, "([I)Z"⟩ : MethodName) cL_law 4 (some FieldType.boolean) 155 mc ms Q mc ms 430 [some (.ref 200000), some (.ref 0), some (.ref 86), some (.int (nI i))] [] LAY K := by
  have hINV := hI
  obtain ⟨N, n, hh, T, S, Z, C, H, A, B, E, wt, L, hI⟩ := hI
  have hJ := hI.1.2.1
  have hn := hJ.1
  have hN := hJ.2.1
  have hR := hI.1.2.2.1
  have hK := hJ.2.2.2.2.1
  have hDo := hJ.2.2.2.2.2.1
  have hWt := hJ.2.2.2.2.2.2.1
  have hTx := hJ.2.2.2.2.2.2.2.1
  have hLw := hI.1.2.2.2
  have h87 := hI.1.1
  have hsil := hI.2.2.2.2.2.2.1
  have hSh := hI.2.2.1
  have hSl := hI.2.2.2.1
  refine A_aload_n rfl dL_law_430 ?_
  refine A_aload_n rfl dL_law_431 ?_
  refine A_iload_n rfl dL_law_432 ?_
  refine A_iconst ic_1 dL_law_433 ?_
  refine A_iadd dL_law_434 ?_
  refine A_scld (i + 1) (ixc i 1) (by omega) (by omega) dL_law_435 ?_
  refine A_aload_n rfl dL_law_436 ?_
  refine A_iload_n rfl dL_law_437 ?_
  refine A_iconst ic_2 dL_law_438 ?_
  refine A_iadd dL_law_439 ?_
  refine A_scld (i + 2) (ixc i 2) (by omega) (by omega) dL_law_440 ?_
  refine A_callV (c_weigh l G K N n hn hN hR _ _) m_X7_weigh ml_L_39 rfl lay_0 rfl (by decide) rfl rfl (Nat.le_of_ble_eq_true rfl) (by decide) (Nat.le_refl _) (Nat.le_refl _) dL_law_441 (fun _ _ _ hqq => congrArg List.length hqq.2.1) ?_
  rintro _ _ K1 ⟨rfl, rfl, hN1⟩
  have e87 : K1 87 = N := (hN1.2 87 (by decide)).trans h87
  refine A_aload_n rfl dL_law_444 ?_
  refine A_aload_n rfl dL_law_445 ?_
  refine A_iload_n rfl dL_law_446 ?_
  refine A_iconst ic_1 dL_law_447 ?_
  refine A_iadd dL_law_448 ?_
  refine A_scld (i + 1) (ixc i 1) (by omega) (by omega) dL_law_449 ?_
  refine A_aload_n rfl dL_law_450 ?_
  refine A_iload_n rfl dL_law_451 ?_
  refine A_iconst ic_2 dL_law_452 ?_
  refine A_iadd dL_law_453 ?_
  refine A_scld (i + 2) (ixc i 2) (by omega) (by omega) dL_law_454 ?_
  refine A_callV (m_weigh l G K1 N e87 _ _) m_X8_weigh ml_L_42 rfl lay_86 rfl (by decide) rfl rfl (Nat.le_of_ble_eq_true rfl) (by decide) (Nat.le_refl _) (Nat.le_refl _) dL_law_455 (fun _ _ _ hqq => congrArg List.length hqq.2.1) ?_
  rintro _ _ _ ⟨rfl, rfl, e9⟩
  refine AW_I e9 ?_
  clear e9
  exact A_icmp_eq 1415 rfl dL_law_458 (fun _ => hgo _ (hI.rowI hN1 (jw_weigh hJ _ _))) (fun cq => absurd (rfl) cq)
set_option maxHeartbeats 1000000 in
set_option maxRecDepth 100000 in
theorem lw_rule (l : Launch) (G : Gm) (yn : String) (mc ms i : Nat) (Q : Pst) (hi : i + 6 ≤ g_sl G) (hb : g_sl G ≤ 3072) (K : Hp) (hI : INV K) (hgo : ∀ K2, INV K2 → AW l G (⟨RL, yn, "([I)Z"⟩ : MethodName) cL_law 4 (some FieldType.boolean) 155 mc ms Q mc ms 1415 [some (.ref 200000), some (.ref 0), some (.ref 86), some (.int (nI i))] [] LAY K2) : AW l G (⟨RL, yn, "([I)Z"⟩ : MethodName) cL_law 4 (some FieldType.boolean) 155 mc ms Q mc ms 463 [some (.ref 200000), some (.ref 0), some (.ref 86), some (.int (nI i))] [] LAY K := by
  have hINV := hI
  obtain ⟨N, n, hh, T, S, Z, C, H, A, B, E, wt, L, hI⟩ := hI
  have hJ := hI.1.2.1
  have hn := hJ.1
  have hN := hJ.2.1
  have hR := hI.1.2.2.1
  have hK := hJ.2.2.2.2.1
  have hDo := hJ.2.2.2.2.2.1
  have hWt := hJ.2.2.2.2.2.2.1
  have hTx := hJ.2.2.2.2.2.2.2.1
  have hLw := hI.1.2.2.2
  have h87 := hI.1.1
  have hsil := hI.2.2.2.2.2.2.1
  have hSh := hI.2.2.1
  have hSl := hI.2.2.2.1
  refine A_aload_n rfl dL_law_463 ?_
  refine A_aload_n rfl dL_law_464 ?_
  refine A_iload_n rfl dL_law_465 ?_
  refine A_iconst ic_1 dL_law_466 ?_
  refine A_iadd dL_law_467 ?_
  refine A_scld (i + 1) (ixc i 1) (by omega) (by omega) dL_law_468 ?_
  refine A_aload_n rfl dL_law_469 ?_
  refine A_iload_n rfl dL_law_470 ?_
  refine A_iconst ic_2 dL_law_471 ?_
  refine A_iadd dL_law_472 ?_
  refine A_scld (i + 2) (ixc i 2) (by omega) (by omega) dL_law_473 ?_
  refine A_callV (c_rule l G K N n hn hN hR _ _) m_X7_rule ml_L_43 rfl lay_0 rfl (by decide) rfl rfl (Nat.le_of_ble_eq_true rfl) (by decide) (Nat.le_refl _) (Nat.le_refl _) dL_law_474 (fun _ _ _ hqq => congrArg List.length hqq.2.1) ?_
  rintro _ _ K1 ⟨rfl, rfl, hN1⟩
  have e87 : K1 87 = N := (hN1.2 87 (by decide)).trans h87
  refine A_aload_n rfl dL_law_477 ?_
  refine A_aload_n rfl dL_law_478 ?_
  refine A_iload_n rfl dL_law_479 ?_
  refine A_iconst ic_1 dL_law_480 ?_
  refine A_iadd dL_law_481 ?_
  refine A_scld (i + 1) (ixc i 1) (by omega) (by omega) dL_law_482 ?_
  refine A_aload_n rfl dL_law_483 ?_
  refine A_iload_n rfl dL_law_484 ?_
  refine A_iconst ic_2 dL_law_485 ?_
  refine A_iadd dL_law_486 ?_
  refine A_scld (i + 2) (ixc i 2) (by omega) (by omega) dL_law_487 ?_
  refine A_callV (m_rule l G K1 N e87 n hn hN _ _) m_X8_rule ml_L_46 rfl lay_86 rfl (by decide) rfl rfl (Nat.le_of_ble_eq_true rfl) (by decide) (Nat.le_refl _) (Nat.le_refl _) dL_law_488 (fun _ _ _ hqq => congrArg List.length hqq.2.1) ?_
  rintro _ _ _ ⟨rfl, rfl, e9⟩
  refine AW_I e9 ?_
  clear e9
  exact A_icmp_eq 1415 rfl dL_law_491 (fun _ => hgo _ (hI.rowI hN1 (jw_rule hJ _ _))) (fun cq => absurd (rfl) cq)
set_option maxHeartbeats 1000000 in
set_option maxRecDepth 100000 in
theorem lw_deal (l : Launch) (G : Gm) (yn : String) (mc ms i : Nat) (Q : Pst) (hi : i + 6 ≤ g_sl G) (hb : g_sl G ≤ 3072) (K : Hp) (hI : INV K) (hgo : ∀ K2, INV K2 → AW l G (⟨RL, yn, "([I)Z"⟩ : MethodName) cL_law 4 (some FieldType.boolean) 155 mc ms Q mc ms 1415 [some (.ref 200000), some (.ref 0), some (.ref 86), some (.int (nI i))] [] LAY K2) : AW l G (⟨RL, yn, "([I)Z"⟩ : MethodName) cL_law 4 (some FieldType.boolean) 155 mc ms Q mc ms 496 [some (.ref 200000), some (.ref 0), some (.ref 86), some (.int (nI i))] [] LAY K := by
  have hINV := hI
  obtain ⟨N, n, hh, T, S, Z, C, H, A, B, E, wt, L, hI⟩ := hI
  have hJ := hI.1.2.1
  have hn := hJ.1
  have hN := hJ.2.1
  have hR := hI.1.2.2.1
  have hK := hJ.2.2.2.2.1
  have hDo := hJ.2.2.2.2.2.1
  have hWt := hJ.2.2.2.2.2.2.1
  have hTx := hJ.2.2.2.2.2.2.2.1
  have hLw := hI.1.2.2.2
  have h87 := hI.1.1
  have hsil := hI.2.2.2.2.2.2.1
  have hSh := hI.2.2.1
  have hSl := hI.2.2.2.1
  refine A_aload_n rfl dL_law_496 ?_
  refine A_aload_n rfl dL_law_497 ?_
  refine A_iload_n rfl dL_law_498 ?_
  refine A_iconst ic_1 dL_law_499 ?_
  refine A_iadd dL_law_500 ?_
  refine A_scld (i + 1) (ixc i 1) (by omega) (by omega) dL_law_501 ?_
  refine A_callV (c_deal l G K N n hn hN hR _) m_X7_deal ml_L_47 rfl lay_0 rfl (by decide) rfl rfl (Nat.le_of_ble_eq_true rfl) (by decide) (Nat.le_refl _) (Nat.le_refl _) dL_law_502 (fun _ _ _ hqq => congrArg List.length hqq.2.1) ?_
  rintro _ _ K1 ⟨rfl, rfl, hN1⟩
  have e87 : K1 87 = N := (hN1.2 87 (by decide)).trans h87
  refine A_aload_n rfl dL_law_505 ?_
  refine A_aload_n rfl dL_law_506 ?_
  refine A_iload_n rfl dL_law_507 ?_
  refine A_iconst ic_1 dL_law_508 ?_
  refine A_iadd dL_law_509 ?_
  refine A_scld (i + 1) (ixc i 1) (by omega) (by omega) dL_law_510 ?_
  refine A_callV (m_deal l G K1 N e87 n hn hN _) m_X8_deal ml_L_51 rfl lay_86 rfl (by decide) rfl rfl (Nat.le_of_ble_eq_true rfl) (by decide) (Nat.le_refl _) (Nat.le_refl _) dL_law_511 (fun _ _ _ hqq => congrArg List.length hqq.2.1) ?_
  rintro _ _ _ ⟨rfl, rfl, e9⟩
  refine AW_I e9 ?_
  clear e9
  exact A_icmp_eq 1415 rfl dL_law_514 (fun _ => hgo _ (hI.rowI hN1 (jw_deal hJ _))) (fun cq => absurd (rfl) cq)
set_option maxHeartbeats 1000000 in
set_option maxRecDepth 100000 in
theorem lw_seed (l : Launch) (G : Gm) (yn : String) (mc ms i : Nat) (Q : Pst) (hi : i + 6 ≤ g_sl G) (hb : g_sl G ≤ 3072) (K : Hp) (hI : INV K) (hgo : ∀ K2, INV K2 → AW l G (⟨RL, yn, "([I)Z"⟩ : MethodName) cL_law 4 (some FieldType.boolean) 155 mc ms Q mc ms 1415 [some (.ref 200000), some (.ref 0), some (.ref 86), some (.int (nI i))] [] LAY K2) : AW l G (⟨RL, yn, "([I)Z"⟩ : MethodName) cL_law 4 (some FieldType.boolean) 155 mc ms Q mc ms 519 [some (.ref 200000), some (.ref 0), some (.ref 86), some (.int (nI i))] [] LAY K := by
  have hINV := hI
  obtain ⟨N, n, hh, T, S, Z, C, H, A, B, E, wt, L, hI⟩ := hI
  have hJ := hI.1.2.1
  have hn := hJ.1
  have hN := hJ.2.1
  have hR := hI.1.2.2.1
  have hK := hJ.2.2.2.2.1
  have hDo := hJ.2.2.2.2.2.1
  have hWt := hJ.2.2.2.2.2.2.1
  have hTx := hJ.2.2.2.2.2.2.2.1
  have hLw := hI.1.2.2.2
  have h87 := hI.1.1
  have hsil := hI.2.2.2.2.2.2.1
  have hSh := hI.2.2.1
  have hSl := hI.2.2.2.1
  refine A_aload_n rfl dL_law_519 ?_
  refine A_aload_n rfl dL_law_520 ?_
  refine A_iload_n rfl dL_law_521 ?_
  refine A_iconst ic_1 dL_law_522 ?_
  refine A_iadd dL_law_523 ?_
  refine A_scld (i + 1) (ixc i 1) (by omega) (by omega) dL_law_524 ?_
  refine A_callV (c_seed l G K N n hn hN hR _) m_X7_seed ml_L_52 rfl lay_0 rfl (by decide) rfl rfl (Nat.le_of_ble_eq_true rfl) (by decide) (Nat.le_refl _) (Nat.le_refl _) dL_law_525 (fun _ _ _ hqq => congrArg List.length hqq.2.1) ?_
  rintro _ _ K1 ⟨rfl, rfl, hN1⟩
  have e87 : K1 87 = N := (hN1.2 87 (by decide)).trans h87
  refine A_aload_n rfl dL_law_528 ?_
  refine A_aload_n rfl dL_law_529 ?_
  refine A_iload_n rfl dL_law_530 ?_
  refine A_iconst ic_1 dL_law_531 ?_
  refine A_iadd dL_law_532 ?_
  refine A_scld (i + 1) (ixc i 1) (by omega) (by omega) dL_law_533 ?_
  refine A_callV (m_seed l G K1 N e87 _) m_X8_seed ml_L_55 rfl lay_86 rfl (by decide) rfl rfl (Nat.le_of_ble_eq_true rfl) (by decide) (Nat.le_refl _) (Nat.le_refl _) dL_law_534 (fun _ _ _ hqq => congrArg List.length hqq.2.1) ?_
  rintro _ _ _ ⟨rfl, rfl, e9⟩
  refine AW_I e9 ?_
  clear e9
  exact A_icmp_eq 1415 rfl dL_law_537 (fun _ => hgo _ (hI.rowI hN1 (jw_seed hJ _))) (fun cq => absurd (rfl) cq)
set_option maxHeartbeats 1000000 in
set_option maxRecDepth 100000 in
theorem lw_out (l : Launch) (G : Gm) (yn : String) (mc ms i : Nat) (Q : Pst) (hi : i + 6 ≤ g_sl G) (hb : g_sl G ≤ 3072) (K : Hp) (hI : INV K) (hgo : ∀ K2, INV K2 → AW l G (⟨RL, yn, "([I)Z"⟩ : MethodName) cL_law 4 (some FieldType.boolean) 155 mc ms Q mc ms 1415 [some (.ref 200000), some (.ref 0), some (.ref 86), some (.int (nI i))] [] LAY K2) : AW l G (⟨RL, yn, "([I)Z"⟩ : MethodName) cL_law 4 (some FieldType.boolean) 155 mc ms Q mc ms 542 [some (.ref 200000), some (.ref 0), some (.ref 86), some (.int (nI i))] [] LAY K := by
  have hINV := hI
  obtain ⟨N, n, hh, T, S, Z, C, H, A, B, E, wt, L, hI⟩ := hI
  have hJ := hI.1.2.1
  have hn := hJ.1
  have hN := hJ.2.1
  have hR := hI.1.2.2.1
  have hK := hJ.2.2.2.2.1
  have hDo := hJ.2.2.2.2.2.1
  have hWt := hJ.2.2.2.2.2.2.1
  have hTx := hJ.2.2.2.2.2.2.2.1
  have hLw := hI.1.2.2.2
  have h87 := hI.1.1
  have hsil := hI.2.2.2.2.2.2.1
  have hSh := hI.2.2.1
  have hSl := hI.2.2.2.1
  refine A_aload_n rfl dL_law_542 ?_
  refine A_aload_n rfl dL_law_543 ?_
  refine A_iload_n rfl dL_law_544 ?_
  refine A_iconst ic_1 dL_law_545 ?_
  refine A_iadd dL_law_546 ?_
  refine A_scld (i + 1) (ixc i 1) (by omega) (by omega) dL_law_547 ?_
  refine A_aload_n rfl dL_law_548 ?_
  refine A_iload_n rfl dL_law_549 ?_
  refine A_iconst ic_2 dL_law_550 ?_
  refine A_iadd dL_law_551 ?_
  refine A_scld (i + 2) (ixc i 2) (by omega) (by omega) dL_law_552 ?_
  refine A_callV (c_out l G K N n hn hN hR hK _ _) m_X7_out ml_L_56 rfl lay_0 rfl (by decide) rfl rfl (Nat.le_of_ble_eq_true rfl) (by decide) (Nat.le_refl _) (Nat.le_refl _) dL_law_553 (fun _ _ _ hqq => congrArg List.length hqq.2.1) ?_
  rintro _ _ K1 ⟨rfl, rfl, hN1⟩
  have e87 : K1 87 = N := (hN1.2 87 (by decide)).trans h87
  refine A_aload_n rfl dL_law_556 ?_
  refine A_aload_n rfl dL_law_557 ?_
  refine A_iload_n rfl dL_law_558 ?_
  refine A_iconst ic_1 dL_law_559 ?_
  refine A_iadd dL_law_560 ?_
  refine A_scld (i + 1) (ixc i 1) (by omega) (by omega) dL_law_561 ?_
  refine A_aload_n rfl dL_law_562 ?_
  refine A_iload_n rfl dL_law_563 ?_
  refine A_iconst ic_2 dL_law_564 ?_
  refine A_iadd dL_law_565 ?_
  refine A_scld (i + 2) (ixc i 2) (by omega) (by omega) dL_law_566 ?_
  refine A_callV (m_out l G K1 N e87 n hn hN _ _) m_X8_out ml_L_59 rfl lay_86 rfl (by decide) rfl rfl (Nat.le_of_ble_eq_true rfl) (by decide) (Nat.le_refl _) (Nat.le_refl _) dL_law_567 (fun _ _ _ hqq => congrArg List.length hqq.2.1) ?_
  rintro _ _ _ ⟨rfl, rfl, e9⟩
  refine AW_I e9 ?_
  clear e9
  exact A_icmp_eq 1415 rfl dL_law_570 (fun _ => hgo _ (hI.rowI hN1 (jw_out hJ _ _))) (fun cq => absurd (rfl) cq)
set_option maxHeartbeats 1000000 in
set_option maxRecDepth 100000 in
theorem lw_hours (l : Launch) (G : Gm) (yn : String) (mc ms i : Nat) (Q : Pst) (hi : i + 6 ≤ g_sl G) (hb : g_sl G ≤ 3072) (K : Hp) (hI : INV K) (hgo : ∀ K2, INV K2 → AW l G (⟨RL, yn, "([I)Z"⟩ : MethodName) cL_law 4 (some FieldType.boolean) 155 mc ms Q mc ms 1415 [some (.ref 200000), some (.ref 0), some (.ref 86), some (.int (nI i))] [] LAY K2) : AW l G (⟨RL, yn, "([I)Z"⟩ : MethodName) cL_law 4 (some FieldType.boolean) 155 mc ms Q mc ms 575 [some (.ref 200000), some (.ref 0), some (.ref 86), some (.int (nI i))] [] LAY K := by
  have hINV := hI
  obtain ⟨N, n, hh, T, S, Z, C, H, A, B, E, wt, L, hI⟩ := hI
  have hJ := hI.1.2.1
  have hn := hJ.1
  have hN := hJ.2.1
  have hR := hI.1.2.2.1
  have hK := hJ.2.2.2.2.1
  have hDo := hJ.2.2.2.2.2.1
  have hWt := hJ.2.2.2.2.2.2.1
  have hTx := hJ.2.2.2.2.2.2.2.1
  have hLw := hI.1.2.2.2
  have h87 := hI.1.1
  have hsil := hI.2.2.2.2.2.2.1
  have hSh := hI.2.2.1
  have hSl := hI.2.2.2.1
  refine A_aload_n rfl dL_law_575 ?_
  refine A_aload_n rfl dL_law_576 ?_
  refine A_iload_n rfl dL_law_577 ?_
  refine A_iconst ic_1 dL_law_578 ?_
  refine A_iadd dL_law_579 ?_
  refine A_scld (i + 1) (ixc i 1) (by omega) (by omega) dL_law_580 ?_
  refine A_callV (c_hours l G K N n hn hN hR hK hh hJ.2.2.1 hJ.2.2.2.1 _) m_X7_hours ml_L_60 rfl lay_0 rfl (by decide) rfl rfl (Nat.le_of_ble_eq_true rfl) (by decide) (Nat.le_refl _) (Nat.le_refl _) dL_law_581 (fun _ _ _ hqq => congrArg List.length hqq.2.1) ?_
  rintro _ _ K1 ⟨rfl, rfl, hN1⟩
  have e87 : K1 87 = N := (hN1.2 87 (by decide)).trans h87
  have s1 : K1 86 4 = -1 := by rw [hN1.2 86 (by decide)]; exact hsil
  refine A_aload_n rfl dL_law_584 ?_
  refine A_aload_n rfl dL_law_585 ?_
  refine A_iload_n rfl dL_law_586 ?_
  refine A_iconst ic_1 dL_law_587 ?_
  refine A_iadd dL_law_588 ?_
  refine A_scld (i + 1) (ixc i 1) (by omega) (by omega) dL_law_589 ?_
  refine A_callV (m_hours l G K1 N e87 n hn hN s1 hh hJ.2.2.1 hJ.2.2.2.1 _) m_X8_hours ml_L_63 rfl lay_86 rfl (by decide) rfl rfl (Nat.le_of_ble_eq_true rfl) (by decide) (Nat.le_refl _) (Nat.le_refl _) dL_law_590 (fun _ _ _ hqq => congrArg List.length hqq.2.1) ?_
  rintro _ _ _ ⟨rfl, rfl, e9⟩
  refine AW_I e9 ?_
  clear e9
  exact A_icmp_eq 1415 rfl dL_law_593 (fun _ => hgo _ (hI.rowI hN1 (jw_hours hJ _))) (fun cq => absurd (rfl) cq)
set_option maxHeartbeats 1000000 in
set_option maxRecDepth 100000 in
theorem lw_jury (l : Launch) (G : Gm) (yn : String) (mc ms i : Nat) (Q : Pst) (hi : i + 6 ≤ g_sl G) (hb : g_sl G ≤ 3072) (K : Hp) (hI : INV K) (hgo : ∀ K2, INV K2 → AW l G (⟨RL, yn, "([I)Z"⟩ : MethodName) cL_law 4 (some FieldType.boolean) 155 mc ms Q mc ms 1415 [some (.ref 200000), some (.ref 0), some (.ref 86), some (.int (nI i))] [] LAY K2) : AW l G (⟨RL, yn, "([I)Z"⟩ : MethodName) cL_law 4 (some FieldType.boolean) 155 mc ms Q mc ms 598 [some (.ref 200000), some (.ref 0), some (.ref 86), some (.int (nI i))] [] LAY K := by
  have hINV := hI
  obtain ⟨N, n, hh, T, S, Z, C, H, A, B, E, wt, L, hI⟩ := hI
  have hJ := hI.1.2.1
  have hn := hJ.1
  have hN := hJ.2.1
  have hR := hI.1.2.2.1
  have hK := hJ.2.2.2.2.1
  have hDo := hJ.2.2.2.2.2.1
  have hWt := hJ.2.2.2.2.2.2.1
  have hTx := hJ.2.2.2.2.2.2.2.1
  have hLw := hI.1.2.2.2
  have h87 := hI.1.1
  have hsil := hI.2.2.2.2.2.2.1
  have hSh := hI.2.2.1
  have hSl := hI.2.2.2.1
  refine A_aload_n rfl dL_law_598 ?_
  refine A_aload_n rfl dL_law_599 ?_
  refine A_iload_n rfl dL_law_600 ?_
  refine A_iconst ic_1 dL_law_601 ?_
  refine A_iadd dL_law_602 ?_
  refine A_scld (i + 1) (ixc i 1) (by omega) (by omega) dL_law_603 ?_
  refine A_callV (c_jury l G K N n hn hN hR T hK hTx hLw hDo _) m_X7_jury ml_L_64 rfl lay_0 rfl (by decide) rfl rfl (Nat.le_of_ble_eq_true rfl) (by decide) (Nat.le_refl _) (Nat.le_refl _) dL_law_604 (fun _ _ _ hqq => congrArg List.length hqq.2.1) ?_
  rintro _ _ K1 ⟨rfl, rfl, hf1⟩
  have hI1 := hI.st hf1
  have e87 := hI1.1.1
  have s1 := hI1.2.2.2.2.2.2.1
  have sh1 := hI1.2.2.1
  refine A_aload_n rfl dL_law_607 ?_
  refine A_aload_n rfl dL_law_608 ?_
  refine A_iload_n rfl dL_law_609 ?_
  refine A_iconst ic_1 dL_law_610 ?_
  refine A_iadd dL_law_611 ?_
  refine A_scld (i + 1) (ixc i 1) (by omega) (by omega) dL_law_612 ?_
  refine A_callV (m_jury l G K1 N e87 n hn hN T hTx _) m_X8_jury ml_L_67 rfl lay_86 rfl (by decide) rfl rfl (Nat.le_of_ble_eq_true rfl) (by decide) (Nat.le_refl _) (Nat.le_refl _) dL_law_613 (fun _ _ _ hqq => congrArg List.length hqq.2.1) ?_
  rintro _ _ K2 ⟨rfl, rfl, hf2⟩
  have hI2 := hI1.m1 hf2
  exact A_icmp_eq 1415 rfl dL_law_616 (fun _ => hgo _ (⟨_, _, _, _, _, _, _, _, _, _, _, _, _, hI2⟩)) (fun cq => absurd (rfl) cq)
set_option maxHeartbeats 1000000 in
set_option maxRecDepth 100000 in
theorem lw_behind (l : Launch) (G : Gm) (yn : String) (mc ms i : Nat) (Q : Pst) (hi : i + 6 ≤ g_sl G) (hb : g_sl G ≤ 3072) (K : Hp) (hI : INV K) (hgo : ∀ K2, INV K2 → AW l G (⟨RL, yn, "([I)Z"⟩ : MethodName) cL_law 4 (some FieldType.boolean) 155 mc ms Q mc ms 1415 [some (.ref 200000), some (.ref 0), some (.ref 86), some (.int (nI i))] [] LAY K2) : AW l G (⟨RL, yn, "([I)Z"⟩ : MethodName) cL_law 4 (some FieldType.boolean) 155 mc ms Q mc ms 621 [some (.ref 200000), some (.ref 0), some (.ref 86), some (.int (nI i))] [] LAY K := by
  have hINV := hI
  obtain ⟨N, n, hh, T, S, Z, C, H, A, B, E, wt, L, hI⟩ := hI
  have hJ := hI.1.2.1
  have hn := hJ.1
  have hN := hJ.2.1
  have hR := hI.1.2.2.1
  have hK := hJ.2.2.2.2.1
  have hDo := hJ.2.2.2.2.2.1
  have hWt := hJ.2.2.2.2.2.2.1
  have hTx := hJ.2.2.2.2.2.2.2.1
  have hLw := hI.1.2.2.2
  have h87 := hI.1.1
  have hsil := hI.2.2.2.2.2.2.1
  have hSh := hI.2.2.1
  have hSl := hI.2.2.2.1
  refine A_aload_n rfl dL_law_621 ?_
  refine A_aload_n rfl dL_law_622 ?_
  refine A_iload_n rfl dL_law_623 ?_
  refine A_iconst ic_1 dL_law_624 ?_
  refine A_iadd dL_law_625 ?_
  refine A_scld (i + 1) (ixc i 1) (by omega) (by omega) dL_law_626 ?_
  refine A_aload_n rfl dL_law_627 ?_
  refine A_iload_n rfl dL_law_628 ?_
  refine A_iconst ic_2 dL_law_629 ?_
  refine A_iadd dL_law_630 ?_
  refine A_scld (i + 2) (ixc i 2) (by omega) (by omega) dL_law_631 ?_
  refine A_callV (c_behind l G K N n hn hN hR T hK hTx hLw hDo _ _) m_X7_behind ml_L_68 rfl lay_0 rfl (by decide) rfl rfl (Nat.le_of_ble_eq_true rfl) (by decide) (Nat.le_refl _) (Nat.le_refl _) dL_law_632 (fun _ _ _ hqq => congrArg List.length hqq.2.1) ?_
  rintro _ _ K1 ⟨rfl, rfl, hf1⟩
  have hI1 := hI.tho hf1
  have e87 := hI1.1.1
  have s1 := hI1.2.2.2.2.2.2.1
  have sh1 := hI1.2.2.1
  refine A_aload_n rfl dL_law_635 ?_
  refine A_aload_n rfl dL_law_636 ?_
  refine A_iload_n rfl dL_law_637 ?_
  refine A_iconst ic_1 dL_law_638 ?_
  refine A_iadd dL_law_639 ?_
  refine A_scld (i + 1) (ixc i 1) (by omega) (by omega) dL_law_640 ?_
  refine A_aload_n rfl dL_law_641 ?_
  refine A_iload_n rfl dL_law_642 ?_
  refine A_iconst ic_2 dL_law_643 ?_
  refine A_iadd dL_law_644 ?_
  refine A_scld (i + 2) (ixc i 2) (by omega) (by omega) dL_law_645 ?_
  refine A_callV (m_behind l G K1 N e87 n hn hN T hTx s1 _ _) m_X8_behind ml_L_71 rfl lay_86 rfl (by decide) rfl rfl (Nat.le_of_ble_eq_true rfl) (by decide) (Nat.le_refl _) (Nat.le_refl _) dL_law_646 (fun _ _ _ hqq => congrArg List.length hqq.2.1) ?_
  rintro _ _ K2 ⟨rfl, rfl, hf2⟩
  have hI2 := hI1.m2 hf2
  exact A_icmp_eq 1415 rfl dL_law_649 (fun _ => hgo _ (⟨_, _, _, _, _, _, _, _, _, _, _, _, _, hI2⟩)) (fun cq => absurd (rfl) cq)
