section W
variable {p : Program} {l : Launch} {e : Env} {s : State} {m : MethodId} {args : Array Value} {below : List Frame} {meth : Method} {c : Code} {D : va_G} {ca : Nat → ClassId} {q0 : Nat} {sa : Nat → Nat} {Q : State → Prop} {b L : Nat} {xs : Nat → Int32} {ad : jAd} {z n i T : Nat} {V : jV} {o5 o6 : Option Value} {kc ks : Nat}
set_option maxRecDepth 20000 in
set_option maxHeartbeats 400000 in
theorem law_addPier (K : jK p l room_1 s m args meth c D ca q0 sa RL cL_law 7 ret) (hN : jNc s) (hX : jX s q0 b L xs) (hi : i + 6 ≤ L) (C : Case l D ca q0 sa ad yL_addPier cL_addPier 8 hL_addPier yX6_addPier cX6_addPier 8 (some .int) [.int (xs (i + 1)), .int (xs (i + 2)), .int (xs (i + 3)), .int (xs (i + 4)), .int (xs (i + 5))] T n V) (hkc : 1 ≤ kc) (hks : 6 ≤ ks) (kk : ∀ (z : Nat) (V : jV) (T' : Nat) (o5 o6 : Option Value), Inv T' n V V → T' ≤ T + 60 → jW p l e room_1 s m args below meth c D ca q0 ad 7 Q (kc - 1) (ks - 6) 2611 [some (.ref b), some (.ref (ad 0 0)), some (.ref (ad 20 0)), some (.ref (ad 60 0)), some (.int (nI i)), o5, o6] [] (jS z n V)) : jW p l e room_1 s m args below meth c D ca q0 ad 7 Q kc ks 232 [some (.ref b), some (.ref (ad 0 0)), some (.ref (ad 20 0)), some (.ref (ad 60 0)), some (.int (nI i)), o5, o6] [] (jS z n V) := by
  obtain ⟨k, r, V1, V2, lx, lm, mc, ms, T', ⟨b1, b2, b3, b4, b5⟩, hx, hm, e0, e1, hI⟩ := C
  refine j_aload_n K 1 dL_law_232 rfl rfl ?_
  refine j_aload_n K 0 dL_law_233 rfl rfl ?_
  refine j_iload K dL_law_234 rfl ?_
  refine j_iconst K 1 dL_law_236 rfl ?_
  refine j_iadd K dL_law_237 ?_
  refine j_sald K hX (i + 1) dL_law_238 (jx_add (a := i) (b := 1) rfl rfl) (by omega) ?_
  refine j_aload_n K 0 dL_law_239 rfl rfl ?_
  refine j_iload K dL_law_240 rfl ?_
  refine j_iconst K 2 dL_law_242 rfl ?_
  refine j_iadd K dL_law_243 ?_
  refine j_sald K hX (i + 2) dL_law_244 (jx_add (a := i) (b := 2) rfl rfl) (by omega) ?_
  refine j_aload_n K 0 dL_law_245 rfl rfl ?_
  refine j_iload K dL_law_246 rfl ?_
  refine j_iconst K 3 dL_law_248 rfl ?_
  refine j_iadd K dL_law_249 ?_
  refine j_sald K hX (i + 3) dL_law_250 (jx_add (a := i) (b := 3) rfl rfl) (by omega) ?_
  refine j_aload_n K 0 dL_law_251 rfl rfl ?_
  refine j_iload K dL_law_252 rfl ?_
  refine j_iconst K 4 dL_law_254 rfl ?_
  refine j_iadd K dL_law_255 ?_
  refine j_sald K hX (i + 4) dL_law_256 (jx_add (a := i) (b := 4) rfl rfl) (by omega) ?_
  refine j_aload_n K 0 dL_law_257 rfl rfl ?_
  refine j_iload K dL_law_258 rfl ?_
  refine j_iconst K 5 dL_law_260 rfl ?_
  refine j_iadd K dL_law_261 ?_
  refine j_sald K hX (i + 5) dL_law_262 (jx_add (a := i) (b := 5) rfl rfl) (by omega) ?_
  refine j_aload_n K 3 dL_law_263 rfl rfl ?_
  refine j_callSH K hN dL_law_264 mw_addPier sw_addPier k_L_133 (hx z) rfl rfl (by simp [Value.category]) ⟨(by show _ ≤ 14; omega), (by show _ ≤ 518; omega)⟩ (by omega) (by omega) (fun v9 M9 hq => ?_) (fun E9 M9 hq => absurd hq.1 (fun w => nomatch w))
  obtain ⟨h9, hM⟩ := hq
  cases h9
  obtain ⟨z9, q9⟩ := M9
  cases hM
  refine j_istore K dL_law_267 (by decide) ?_
  refine j_aload_n K 2 dL_law_269 rfl rfl ?_
  refine j_aload_n K 0 dL_law_270 rfl rfl ?_
  refine j_iload K dL_law_271 rfl ?_
  refine j_iconst K 1 dL_law_273 rfl ?_
  refine j_iadd K dL_law_274 ?_
  refine j_sald K hX (i + 1) dL_law_275 (jx_add (a := i) (b := 1) rfl rfl) (by omega) ?_
  refine j_aload_n K 0 dL_law_276 rfl rfl ?_
  refine j_iload K dL_law_277 rfl ?_
  refine j_iconst K 2 dL_law_279 rfl ?_
  refine j_iadd K dL_law_280 ?_
  refine j_sald K hX (i + 2) dL_law_281 (jx_add (a := i) (b := 2) rfl rfl) (by omega) ?_
  refine j_aload_n K 0 dL_law_282 rfl rfl ?_
  refine j_iload K dL_law_283 rfl ?_
  refine j_iconst K 3 dL_law_285 rfl ?_
  refine j_iadd K dL_law_286 ?_
  refine j_sald K hX (i + 3) dL_law_287 (jx_add (a := i) (b := 3) rfl rfl) (by omega) ?_
  refine j_aload_n K 0 dL_law_288 rfl rfl ?_
  refine j_iload K dL_law_289 rfl ?_
  refine j_iconst K 4 dL_law_291 rfl ?_
  refine j_iadd K dL_law_292 ?_
  refine j_sald K hX (i + 4) dL_law_293 (jx_add (a := i) (b := 4) rfl rfl) (by omega) ?_
  refine j_aload_n K 0 dL_law_294 rfl rfl ?_
  refine j_iload K dL_law_295 rfl ?_
  refine j_iconst K 5 dL_law_297 rfl ?_
  refine j_iadd K dL_law_298 ?_
  refine j_sald K hX (i + 5) dL_law_299 (jx_add (a := i) (b := 5) rfl rfl) (by omega) ?_
  refine j_callV K dL_law_300 m_X6_addPier v_X6_addPier k_L_138 rfl ⟨by decide, rfl⟩ rfl (hm z9) rfl rfl (by simp [Value.category]) ⟨(by show _ ≤ 14; omega), (by show _ ≤ 518; omega)⟩ (Nat.zero_le _) (Nat.zero_le _) (fun v9 M9 hq => ?_) (fun E9 M9 hq => absurd hq.1 (fun w => nomatch w))
  obtain ⟨h9, rfl⟩ := hq
  cases h9
  refine j_istore K dL_law_303 (by decide) ?_
  refine j_aload_n K 2 dL_law_305 rfl rfl ?_
  refine j_callV K dL_law_306 m_X6_thrown v_X6_thrown k_L_139 rfl ⟨by decide, rfl⟩ rfl c_M_thrown rfl rfl (by simp [Value.category]) ⟨(by show _ ≤ 14; decide), (by show _ ≤ 518; decide)⟩ (Nat.zero_le _) (Nat.zero_le _) (fun v9 M9 hq => ?_) (fun E9 M9 hq => absurd hq.1 (fun w => nomatch w))
  obtain ⟨h9, rfl⟩ := hq
  cases h9
  refine j_iload K dL_law_309 rfl ?_
  refine j_icmp_eq K 316 dL_law_311 (by decide) (fun _ => ?_) (fun hne => absurd e0 hne)
  refine j_iload K dL_law_316 rfl ?_
  refine j_if_ne K 333 dL_law_318 (by decide) (fun hk => ?_) (fun hk => ?_)
  · refine j_goto K 2611 dL_law_333 (by decide) ?_
    exact jW_mono (kk z9 V2 T' _ _ hI b5) (by omega) (by omega)
  · refine j_aload_n K 3 dL_law_321 rfl rfl ?_
    refine j_iconst K 0 dL_law_322 rfl ?_
    refine jLald K 0 dL_law_323 rfl rfl rfl (by decide) ?_
    refine j_iload K dL_law_324 rfl ?_
    rw [e1 hk]
    refine j_i2l K dL_law_326 ?_
    refine j_lcmp K dL_law_327 ?_
    rw [lg_cmp_self]
    refine j_if_eq K 333 dL_law_328 (by decide) (fun _ => ?_) (fun hne => absurd rfl hne)
    refine j_goto K 2611 dL_law_333 (by decide) ?_
    exact jW_mono (kk z9 V2 T' _ _ hI b5) (by omega) (by omega)
set_option maxRecDepth 20000 in
set_option maxHeartbeats 400000 in
theorem law_pierCount (K : jK p l room_1 s m args meth c D ca q0 sa RL cL_law 7 ret) (C : CaseS l D ca q0 sa ad yX5_pierCount cX5_pierCount 1 yX6_pierCount cX6_pierCount 1 T n V) (hkc : 1 ≤ kc) (hks : 6 ≤ ks) (kk : ∀ (z : Nat) (V : jV) (T' : Nat) (o5 o6 : Option Value), Inv T' n V V → T' ≤ T + 60 → jW p l e room_1 s m args below meth c D ca q0 ad 7 Q (kc - 1) (ks - 6) 2611 [some (.ref b), some (.ref (ad 0 0)), some (.ref (ad 20 0)), some (.ref (ad 60 0)), some (.int (nI i)), o5, o6] [] (jS z n V)) : jW p l e room_1 s m args below meth c D ca q0 ad 7 Q kc ks 336 [some (.ref b), some (.ref (ad 0 0)), some (.ref (ad 20 0)), some (.ref (ad 60 0)), some (.int (nI i)), o5, o6] [] (jS z n V) := by
  obtain ⟨r, V1, V2, lx, lm, ⟨b1, b2⟩, hx, hm, hI⟩ := C
  refine j_aload_n K 1 dL_law_336 rfl rfl ?_
  refine j_callV K dL_law_337 m_X5_pierCount v_X5_pierCount k_L_142 rfl ⟨by decide, rfl⟩ rfl (hx z) rfl rfl (by simp [Value.category]) ⟨(by show _ ≤ 14; omega), (by show _ ≤ 518; omega)⟩ (Nat.zero_le _) (Nat.zero_le _) (fun v9 M9 hq => ?_) (fun E9 M9 hq => absurd hq.1 (fun w => nomatch w))
  obtain ⟨h9, rfl⟩ := hq
  cases h9
  refine j_aload_n K 2 dL_law_340 rfl rfl ?_
  refine j_callV K dL_law_341 m_X6_pierCount v_X6_pierCount k_L_145 rfl ⟨by decide, rfl⟩ rfl (hm z) rfl rfl (by simp [Value.category]) ⟨(by show _ ≤ 14; omega), (by show _ ≤ 518; omega)⟩ (Nat.zero_le _) (Nat.zero_le _) (fun v9 M9 hq => ?_) (fun E9 M9 hq => absurd hq.1 (fun w => nomatch w))
  obtain ⟨h9, rfl⟩ := hq
  cases h9
  refine j_icmp_eq K 2611 dL_law_344 (by decide) (fun _ => ?_) (fun hne => absurd rfl hne)
  exact jW_mono (kk z V2 T _ _ hI (by omega)) (by omega) (by omega)
set_option maxRecDepth 20000 in
set_option maxHeartbeats 400000 in
theorem law_today (K : jK p l room_1 s m args meth c D ca q0 sa RL cL_law 7 ret) (C : CaseS l D ca q0 sa ad yX5_today cX5_today 1 yX6_today cX6_today 1 T n V) (hkc : 1 ≤ kc) (hks : 6 ≤ ks) (kk : ∀ (z : Nat) (V : jV) (T' : Nat) (o5 o6 : Option Value), Inv T' n V V → T' ≤ T + 60 → jW p l e room_1 s m args below meth c D ca q0 ad 7 Q (kc - 1) (ks - 6) 2611 [some (.ref b), some (.ref (ad 0 0)), some (.ref (ad 20 0)), some (.ref (ad 60 0)), some (.int (nI i)), o5, o6] [] (jS z n V)) : jW p l e room_1 s m args below meth c D ca q0 ad 7 Q kc ks 349 [some (.ref b), some (.ref (ad 0 0)), some (.ref (ad 20 0)), some (.ref (ad 60 0)), some (.int (nI i)), o5, o6] [] (jS z n V) := by
  obtain ⟨r, V1, V2, lx, lm, ⟨b1, b2⟩, hx, hm, hI⟩ := C
  refine j_aload_n K 1 dL_law_349 rfl rfl ?_
  refine j_callV K dL_law_350 m_X5_today v_X5_today k_L_146 rfl ⟨by decide, rfl⟩ rfl (hx z) rfl rfl (by simp [Value.category]) ⟨(by show _ ≤ 14; omega), (by show _ ≤ 518; omega)⟩ (Nat.zero_le _) (Nat.zero_le _) (fun v9 M9 hq => ?_) (fun E9 M9 hq => absurd hq.1 (fun w => nomatch w))
  obtain ⟨h9, rfl⟩ := hq
  cases h9
  refine j_aload_n K 2 dL_law_353 rfl rfl ?_
  refine j_callV K dL_law_354 m_X6_today v_X6_today k_L_149 rfl ⟨by decide, rfl⟩ rfl (hm z) rfl rfl (by simp [Value.category]) ⟨(by show _ ≤ 14; omega), (by show _ ≤ 518; omega)⟩ (Nat.zero_le _) (Nat.zero_le _) (fun v9 M9 hq => ?_) (fun E9 M9 hq => absurd hq.1 (fun w => nomatch w))
  obtain ⟨h9, rfl⟩ := hq
  cases h9
  refine j_icmp_eq K 2611 dL_law_357 (by decide) (fun _ => ?_) (fun hne => absurd rfl hne)
  exact jW_mono (kk z V2 T _ _ hI (by omega)) (by omega) (by omega)
set_option maxRecDepth 20000 in
set_option maxHeartbeats 400000 in
theorem law_passDays (K : jK p l room_1 s m args meth c D ca q0 sa RL cL_law 7 ret) (hN : jNc s) (hX : jX s q0 b L xs) (hi : i + 6 ≤ L) (C : Case l D ca q0 sa ad yL_passDays cL_passDays 4 hL_passDays yX6_passDays cX6_passDays 3 (some .int) [.int (xs (i + 1))] T n V) (hkc : 1 ≤ kc) (hks : 6 ≤ ks) (kk : ∀ (z : Nat) (V : jV) (T' : Nat) (o5 o6 : Option Value), Inv T' n V V → T' ≤ T + 60 → jW p l e room_1 s m args below meth c D ca q0 ad 7 Q (kc - 1) (ks - 6) 2611 [some (.ref b), some (.ref (ad 0 0)), some (.ref (ad 20 0)), some (.ref (ad 60 0)), some (.int (nI i)), o5, o6] [] (jS z n V)) : jW p l e room_1 s m args below meth c D ca q0 ad 7 Q kc ks 362 [some (.ref b), some (.ref (ad 0 0)), some (.ref (ad 20 0)), some (.ref (ad 60 0)), some (.int (nI i)), o5, o6] [] (jS z n V) := by
  obtain ⟨k, r, V1, V2, lx, lm, mc, ms, T', ⟨b1, b2, b3, b4, b5⟩, hx, hm, e0, e1, hI⟩ := C
  refine j_aload_n K 1 dL_law_362 rfl rfl ?_
  refine j_aload_n K 0 dL_law_363 rfl rfl ?_
  refine j_iload K dL_law_364 rfl ?_
  refine j_iconst K 1 dL_law_366 rfl ?_
  refine j_iadd K dL_law_367 ?_
  refine j_sald K hX (i + 1) dL_law_368 (jx_add (a := i) (b := 1) rfl rfl) (by omega) ?_
  refine j_aload_n K 3 dL_law_369 rfl rfl ?_
  refine j_callSH K hN dL_law_370 mw_passDays sw_passDays k_L_150 (hx z) rfl rfl (by simp [Value.category]) ⟨(by show _ ≤ 14; omega), (by show _ ≤ 518; omega)⟩ (by omega) (by omega) (fun v9 M9 hq => ?_) (fun E9 M9 hq => absurd hq.1 (fun w => nomatch w))
  obtain ⟨h9, hM⟩ := hq
  cases h9
  obtain ⟨z9, q9⟩ := M9
  cases hM
  refine j_istore K dL_law_373 (by decide) ?_
  refine j_aload_n K 2 dL_law_375 rfl rfl ?_
  refine j_aload_n K 0 dL_law_376 rfl rfl ?_
  refine j_iload K dL_law_377 rfl ?_
  refine j_iconst K 1 dL_law_379 rfl ?_
  refine j_iadd K dL_law_380 ?_
  refine j_sald K hX (i + 1) dL_law_381 (jx_add (a := i) (b := 1) rfl rfl) (by omega) ?_
  refine j_callV K dL_law_382 m_X6_passDays v_X6_passDays k_L_153 rfl ⟨by decide, rfl⟩ rfl (hm z9) rfl rfl (by simp [Value.category]) ⟨(by show _ ≤ 14; omega), (by show _ ≤ 518; omega)⟩ (Nat.zero_le _) (Nat.zero_le _) (fun v9 M9 hq => ?_) (fun E9 M9 hq => absurd hq.1 (fun w => nomatch w))
  obtain ⟨h9, rfl⟩ := hq
  cases h9
  refine j_istore K dL_law_385 (by decide) ?_
  refine j_aload_n K 2 dL_law_387 rfl rfl ?_
  refine j_callV K dL_law_388 m_X6_thrown v_X6_thrown k_L_139 rfl ⟨by decide, rfl⟩ rfl c_M_thrown rfl rfl (by simp [Value.category]) ⟨(by show _ ≤ 14; decide), (by show _ ≤ 518; decide)⟩ (Nat.zero_le _) (Nat.zero_le _) (fun v9 M9 hq => ?_) (fun E9 M9 hq => absurd hq.1 (fun w => nomatch w))
  obtain ⟨h9, rfl⟩ := hq
  cases h9
  refine j_iload K dL_law_391 rfl ?_
  refine j_icmp_eq K 398 dL_law_393 (by decide) (fun _ => ?_) (fun hne => absurd e0 hne)
  refine j_iload K dL_law_398 rfl ?_
  refine j_if_ne K 415 dL_law_400 (by decide) (fun hk => ?_) (fun hk => ?_)
  · refine j_goto K 2611 dL_law_415 (by decide) ?_
    exact jW_mono (kk z9 V2 T' _ _ hI b5) (by omega) (by omega)
  · refine j_aload_n K 3 dL_law_403 rfl rfl ?_
    refine j_iconst K 0 dL_law_404 rfl ?_
    refine jLald K 0 dL_law_405 rfl rfl rfl (by decide) ?_
    refine j_iload K dL_law_406 rfl ?_
    rw [e1 hk]
    refine j_i2l K dL_law_408 ?_
    refine j_lcmp K dL_law_409 ?_
    rw [lg_cmp_self]
    refine j_if_eq K 415 dL_law_410 (by decide) (fun _ => ?_) (fun hne => absurd rfl hne)
    refine j_goto K 2611 dL_law_415 (by decide) ?_
    exact jW_mono (kk z9 V2 T' _ _ hI b5) (by omega) (by omega)
set_option maxRecDepth 20000 in
set_option maxHeartbeats 400000 in
theorem law_moonAge (K : jK p l room_1 s m args meth c D ca q0 sa RL cL_law 7 ret) (hN : jNc s) (hX : jX s q0 b L xs) (hi : i + 6 ≤ L) (C : Case l D ca q0 sa ad yL_moonAge cL_moonAge 4 hL_moonAge yX6_moonAge cX6_moonAge 2 (some .int) [.int (xs (i + 1))] T n V) (hkc : 1 ≤ kc) (hks : 6 ≤ ks) (kk : ∀ (z : Nat) (V : jV) (T' : Nat) (o5 o6 : Option Value), Inv T' n V V → T' ≤ T + 60 → jW p l e room_1 s m args below meth c D ca q0 ad 7 Q (kc - 1) (ks - 6) 2611 [some (.ref b), some (.ref (ad 0 0)), some (.ref (ad 20 0)), some (.ref (ad 60 0)), some (.int (nI i)), o5, o6] [] (jS z n V)) : jW p l e room_1 s m args below meth c D ca q0 ad 7 Q kc ks 418 [some (.ref b), some (.ref (ad 0 0)), some (.ref (ad 20 0)), some (.ref (ad 60 0)), some (.int (nI i)), o5, o6] [] (jS z n V) := by
  obtain ⟨k, r, V1, V2, lx, lm, mc, ms, T', ⟨b1, b2, b3, b4, b5⟩, hx, hm, e0, e1, hI⟩ := C
  refine j_aload_n K 1 dL_law_418 rfl rfl ?_
  refine j_aload_n K 0 dL_law_419 rfl rfl ?_
  refine j_iload K dL_law_420 rfl ?_
  refine j_iconst K 1 dL_law_422 rfl ?_
  refine j_iadd K dL_law_423 ?_
  refine j_sald K hX (i + 1) dL_law_424 (jx_add (a := i) (b := 1) rfl rfl) (by omega) ?_
  refine j_aload_n K 3 dL_law_425 rfl rfl ?_
  refine j_callSH K hN dL_law_426 mw_moonAge sw_moonAge k_L_154 (hx z) rfl rfl (by simp [Value.category]) ⟨(by show _ ≤ 14; omega), (by show _ ≤ 518; omega)⟩ (by omega) (by omega) (fun v9 M9 hq => ?_) (fun E9 M9 hq => absurd hq.1 (fun w => nomatch w))
  obtain ⟨h9, hM⟩ := hq
  cases h9
  obtain ⟨z9, q9⟩ := M9
  cases hM
  refine j_istore K dL_law_429 (by decide) ?_
  refine j_aload_n K 2 dL_law_431 rfl rfl ?_
  refine j_aload_n K 0 dL_law_432 rfl rfl ?_
  refine j_iload K dL_law_433 rfl ?_
  refine j_iconst K 1 dL_law_435 rfl ?_
  refine j_iadd K dL_law_436 ?_
  refine j_sald K hX (i + 1) dL_law_437 (jx_add (a := i) (b := 1) rfl rfl) (by omega) ?_
  refine j_callV K dL_law_438 m_X6_moonAge v_X6_moonAge k_L_156 rfl ⟨by decide, rfl⟩ rfl (hm z9) rfl rfl (by simp [Value.category]) ⟨(by show _ ≤ 14; omega), (by show _ ≤ 518; omega)⟩ (Nat.zero_le _) (Nat.zero_le _) (fun v9 M9 hq => ?_) (fun E9 M9 hq => absurd hq.1 (fun w => nomatch w))
  obtain ⟨h9, rfl⟩ := hq
  cases h9
  refine j_istore K dL_law_441 (by decide) ?_
  refine j_aload_n K 2 dL_law_443 rfl rfl ?_
  refine j_callV K dL_law_444 m_X6_thrown v_X6_thrown k_L_139 rfl ⟨by decide, rfl⟩ rfl c_M_thrown rfl rfl (by simp [Value.category]) ⟨(by show _ ≤ 14; decide), (by show _ ≤ 518; decide)⟩ (Nat.zero_le _) (Nat.zero_le _) (fun v9 M9 hq => ?_) (fun E9 M9 hq => absurd hq.1 (fun w => nomatch w))
  obtain ⟨h9, rfl⟩ := hq
  cases h9
  refine j_iload K dL_law_447 rfl ?_
  refine j_icmp_eq K 454 dL_law_449 (by decide) (fun _ => ?_) (fun hne => absurd e0 hne)
  refine j_iload K dL_law_454 rfl ?_
  refine j_if_ne K 471 dL_law_456 (by decide) (fun hk => ?_) (fun hk => ?_)
  · refine j_goto K 2611 dL_law_471 (by decide) ?_
    exact jW_mono (kk z9 V2 T' _ _ hI b5) (by omega) (by omega)
  · refine j_aload_n K 3 dL_law_459 rfl rfl ?_
    refine j_iconst K 0 dL_law_460 rfl ?_
    refine jLald K 0 dL_law_461 rfl rfl rfl (by decide) ?_
    refine j_iload K dL_law_462 rfl ?_
    rw [e1 hk]
    refine j_i2l K dL_law_464 ?_
    refine j_lcmp K dL_law_465 ?_
    rw [lg_cmp_self]
    refine j_if_eq K 471 dL_law_466 (by decide) (fun _ => ?_) (fun hne => absurd rfl hne)
    refine j_goto K 2611 dL_law_471 (by decide) ?_
    exact jW_mono (kk z9 V2 T' _ _ hI b5) (by omega) (by omega)
set_option maxRecDepth 20000 in
set_option maxHeartbeats 400000 in
theorem law_rangeOf (K : jK p l room_1 s m args meth c D ca q0 sa RL cL_law 7 ret) (hN : jNc s) (hX : jX s q0 b L xs) (hi : i + 6 ≤ L) (C : Case l D ca q0 sa ad yL_rangeOf cL_rangeOf 5 hL_rangeOf yX6_rangeOf cX6_rangeOf 3 (some .int) [.int (xs (i + 1)), .int (xs (i + 2))] T n V) (hkc : 1 ≤ kc) (hks : 6 ≤ ks) (kk : ∀ (z : Nat) (V : jV) (T' : Nat) (o5 o6 : Option Value), Inv T' n V V → T' ≤ T + 60 → jW p l e room_1 s m args below meth c D ca q0 ad 7 Q (kc - 1) (ks - 6) 2611 [some (.ref b), some (.ref (ad 0 0)), some (.ref (ad 20 0)), some (.ref (ad 60 0)), some (.int (nI i)), o5, o6] [] (jS z n V)) : jW p l e room_1 s m args below meth c D ca q0 ad 7 Q kc ks 474 [some (.ref b), some (.ref (ad 0 0)), some (.ref (ad 20 0)), some (.ref (ad 60 0)), some (.int (nI i)), o5, o6] [] (jS z n V) := by
  obtain ⟨k, r, V1, V2, lx, lm, mc, ms, T', ⟨b1, b2, b3, b4, b5⟩, hx, hm, e0, e1, hI⟩ := C
  refine j_aload_n K 1 dL_law_474 rfl rfl ?_
  refine j_aload_n K 0 dL_law_475 rfl rfl ?_
  refine j_iload K dL_law_476 rfl ?_
  refine j_iconst K 1 dL_law_478 rfl ?_
  refine j_iadd K dL_law_479 ?_
  refine j_sald K hX (i + 1) dL_law_480 (jx_add (a := i) (b := 1) rfl rfl) (by omega) ?_
  refine j_aload_n K 0 dL_law_481 rfl rfl ?_
  refine j_iload K dL_law_482 rfl ?_
  refine j_iconst K 2 dL_law_484 rfl ?_
  refine j_iadd K dL_law_485 ?_
  refine j_sald K hX (i + 2) dL_law_486 (jx_add (a := i) (b := 2) rfl rfl) (by omega) ?_
  refine j_aload_n K 3 dL_law_487 rfl rfl ?_
  refine j_callSH K hN dL_law_488 mw_rangeOf sw_rangeOf k_L_157 (hx z) rfl rfl (by simp [Value.category]) ⟨(by show _ ≤ 14; omega), (by show _ ≤ 518; omega)⟩ (by omega) (by omega) (fun v9 M9 hq => ?_) (fun E9 M9 hq => absurd hq.1 (fun w => nomatch w))
  obtain ⟨h9, hM⟩ := hq
  cases h9
  obtain ⟨z9, q9⟩ := M9
  cases hM
  refine j_istore K dL_law_491 (by decide) ?_
  refine j_aload_n K 2 dL_law_493 rfl rfl ?_
  refine j_aload_n K 0 dL_law_494 rfl rfl ?_
  refine j_iload K dL_law_495 rfl ?_
  refine j_iconst K 1 dL_law_497 rfl ?_
  refine j_iadd K dL_law_498 ?_
  refine j_sald K hX (i + 1) dL_law_499 (jx_add (a := i) (b := 1) rfl rfl) (by omega) ?_
  refine j_aload_n K 0 dL_law_500 rfl rfl ?_
  refine j_iload K dL_law_501 rfl ?_
  refine j_iconst K 2 dL_law_503 rfl ?_
  refine j_iadd K dL_law_504 ?_
  refine j_sald K hX (i + 2) dL_law_505 (jx_add (a := i) (b := 2) rfl rfl) (by omega) ?_
  refine j_callV K dL_law_506 m_X6_rangeOf v_X6_rangeOf k_L_160 rfl ⟨by decide, rfl⟩ rfl (hm z9) rfl rfl (by simp [Value.category]) ⟨(by show _ ≤ 14; omega), (by show _ ≤ 518; omega)⟩ (Nat.zero_le _) (Nat.zero_le _) (fun v9 M9 hq => ?_) (fun E9 M9 hq => absurd hq.1 (fun w => nomatch w))
  obtain ⟨h9, rfl⟩ := hq
  cases h9
  refine j_istore K dL_law_509 (by decide) ?_
  refine j_aload_n K 2 dL_law_511 rfl rfl ?_
  refine j_callV K dL_law_512 m_X6_thrown v_X6_thrown k_L_139 rfl ⟨by decide, rfl⟩ rfl c_M_thrown rfl rfl (by simp [Value.category]) ⟨(by show _ ≤ 14; decide), (by show _ ≤ 518; decide)⟩ (Nat.zero_le _) (Nat.zero_le _) (fun v9 M9 hq => ?_) (fun E9 M9 hq => absurd hq.1 (fun w => nomatch w))
  obtain ⟨h9, rfl⟩ := hq
  cases h9
  refine j_iload K dL_law_515 rfl ?_
  refine j_icmp_eq K 522 dL_law_517 (by decide) (fun _ => ?_) (fun hne => absurd e0 hne)
  refine j_iload K dL_law_522 rfl ?_
  refine j_if_ne K 539 dL_law_524 (by decide) (fun hk => ?_) (fun hk => ?_)
  · refine j_goto K 2611 dL_law_539 (by decide) ?_
    exact jW_mono (kk z9 V2 T' _ _ hI b5) (by omega) (by omega)
  · refine j_aload_n K 3 dL_law_527 rfl rfl ?_
    refine j_iconst K 0 dL_law_528 rfl ?_
    refine jLald K 0 dL_law_529 rfl rfl rfl (by decide) ?_
    refine j_iload K dL_law_530 rfl ?_
    rw [e1 hk]
    refine j_i2l K dL_law_532 ?_
    refine j_lcmp K dL_law_533 ?_
    rw [lg_cmp_self]
    refine j_if_eq K 539 dL_law_534 (by decide) (fun _ => ?_) (fun hne => absurd rfl hne)
    refine j_goto K 2611 dL_law_539 (by decide) ?_
    exact jW_mono (kk z9 V2 T' _ _ hI b5) (by omega) (by omega)
set_option maxRecDepth 20000 in
set_option maxHeartbeats 400000 in
theorem law_waterCount (K : jK p l room_1 s m args meth c D ca q0 sa RL cL_law 7 ret) (hN : jNc s) (hX : jX s q0 b L xs) (hi : i + 6 ≤ L) (C : Case l D ca q0 sa ad yL_waterCount cL_waterCount 5 hL_waterCount yX6_waterCount cX6_waterCount 3 (some .int) [.int (xs (i + 1)), .int (xs (i + 2))] T n V) (hkc : 1 ≤ kc) (hks : 6 ≤ ks) (kk : ∀ (z : Nat) (V : jV) (T' : Nat) (o5 o6 : Option Value), Inv T' n V V → T' ≤ T + 60 → jW p l e room_1 s m args below meth c D ca q0 ad 7 Q (kc - 1) (ks - 6) 2611 [some (.ref b), some (.ref (ad 0 0)), some (.ref (ad 20 0)), some (.ref (ad 60 0)), some (.int (nI i)), o5, o6] [] (jS z n V)) : jW p l e room_1 s m args below meth c D ca q0 ad 7 Q kc ks 542 [some (.ref b), some (.ref (ad 0 0)), some (.ref (ad 20 0)), some (.ref (ad 60 0)), some (.int (nI i)), o5, o6] [] (jS z n V) := by
  obtain ⟨k, r, V1, V2, lx, lm, mc, ms, T', ⟨b1, b2, b3, b4, b5⟩, hx, hm, e0, e1, hI⟩ := C
  refine j_aload_n K 1 dL_law_542 rfl rfl ?_
  refine j_aload_n K 0 dL_law_543 rfl rfl ?_
  refine j_iload K dL_law_544 rfl ?_
  refine j_iconst K 1 dL_law_546 rfl ?_
  refine j_iadd K dL_law_547 ?_
  refine j_sald K hX (i + 1) dL_law_548 (jx_add (a := i) (b := 1) rfl rfl) (by omega) ?_
  refine j_aload_n K 0 dL_law_549 rfl rfl ?_
  refine j_iload K dL_law_550 rfl ?_
  refine j_iconst K 2 dL_law_552 rfl ?_
  refine j_iadd K dL_law_553 ?_
  refine j_sald K hX (i + 2) dL_law_554 (jx_add (a := i) (b := 2) rfl rfl) (by omega) ?_
  refine j_aload_n K 3 dL_law_555 rfl rfl ?_
  refine j_callSH K hN dL_law_556 mw_waterCount sw_waterCount k_L_161 (hx z) rfl rfl (by simp [Value.category]) ⟨(by show _ ≤ 14; omega), (by show _ ≤ 518; omega)⟩ (by omega) (by omega) (fun v9 M9 hq => ?_) (fun E9 M9 hq => absurd hq.1 (fun w => nomatch w))
  obtain ⟨h9, hM⟩ := hq
  cases h9
  obtain ⟨z9, q9⟩ := M9
  cases hM
  refine j_istore K dL_law_559 (by decide) ?_
  refine j_aload_n K 2 dL_law_561 rfl rfl ?_
  refine j_aload_n K 0 dL_law_562 rfl rfl ?_
  refine j_iload K dL_law_563 rfl ?_
  refine j_iconst K 1 dL_law_565 rfl ?_
  refine j_iadd K dL_law_566 ?_
  refine j_sald K hX (i + 1) dL_law_567 (jx_add (a := i) (b := 1) rfl rfl) (by omega) ?_
  refine j_aload_n K 0 dL_law_568 rfl rfl ?_
  refine j_iload K dL_law_569 rfl ?_
  refine j_iconst K 2 dL_law_571 rfl ?_
  refine j_iadd K dL_law_572 ?_
  refine j_sald K hX (i + 2) dL_law_573 (jx_add (a := i) (b := 2) rfl rfl) (by omega) ?_
  refine j_callV K dL_law_574 m_X6_waterCount v_X6_waterCount k_L_163 rfl ⟨by decide, rfl⟩ rfl (hm z9) rfl rfl (by simp [Value.category]) ⟨(by show _ ≤ 14; omega), (by show _ ≤ 518; omega)⟩ (Nat.zero_le _) (Nat.zero_le _) (fun v9 M9 hq => ?_) (fun E9 M9 hq => absurd hq.1 (fun w => nomatch w))
  obtain ⟨h9, rfl⟩ := hq
  cases h9
  refine j_istore K dL_law_577 (by decide) ?_
  refine j_aload_n K 2 dL_law_579 rfl rfl ?_
  refine j_callV K dL_law_580 m_X6_thrown v_X6_thrown k_L_139 rfl ⟨by decide, rfl⟩ rfl c_M_thrown rfl rfl (by simp [Value.category]) ⟨(by show _ ≤ 14; decide), (by show _ ≤ 518; decide)⟩ (Nat.zero_le _) (Nat.zero_le _) (fun v9 M9 hq => ?_) (fun E9 M9 hq => absurd hq.1 (fun w => nomatch w))
  obtain ⟨h9, rfl⟩ := hq
  cases h9
  refine j_iload K dL_law_583 rfl ?_
  refine j_icmp_eq K 590 dL_law_585 (by decide) (fun _ => ?_) (fun hne => absurd e0 hne)
  refine j_iload K dL_law_590 rfl ?_
  refine j_if_ne K 607 dL_law_592 (by decide) (fun hk => ?_) (fun hk => ?_)
  · refine j_goto K 2611 dL_law_607 (by decide) ?_
    exact jW_mono (kk z9 V2 T' _ _ hI b5) (by omega) (by omega)
  · refine j_aload_n K 3 dL_law_595 rfl rfl ?_
    refine j_iconst K 0 dL_law_596 rfl ?_
    refine jLald K 0 dL_law_597 rfl rfl rfl (by decide) ?_
    refine j_iload K dL_law_598 rfl ?_
    rw [e1 hk]
    refine j_i2l K dL_law_600 ?_
    refine j_lcmp K dL_law_601 ?_
    rw [lg_cmp_self]
    refine j_if_eq K 607 dL_law_602 (by decide) (fun _ => ?_) (fun hne => absurd rfl hne)
    refine j_goto K 2611 dL_law_607 (by decide) ?_
    exact jW_mono (kk z9 V2 T' _ _ hI b5) (by omega) (by omega)
set_option maxRecDepth 20000 in
set_option maxHeartbeats 400000 in
theorem law_waterMinute (K : jK p l room_1 s m args meth c D ca q0 sa RL cL_law 7 ret) (hN : jNc s) (hX : jX s q0 b L xs) (hi : i + 6 ≤ L) (C : Case l D ca q0 sa ad yL_waterMinute cL_waterMinute 6 hL_waterMinute yX6_waterMinute cX6_waterMinute 4 (some .int) [.int (xs (i + 1)), .int (xs (i + 2)), .int (xs (i + 3))] T n V) (hkc : 1 ≤ kc) (hks : 6 ≤ ks) (kk : ∀ (z : Nat) (V : jV) (T' : Nat) (o5 o6 : Option Value), Inv T' n V V → T' ≤ T + 60 → jW p l e room_1 s m args below meth c D ca q0 ad 7 Q (kc - 1) (ks - 6) 2611 [some (.ref b), some (.ref (ad 0 0)), some (.ref (ad 20 0)), some (.ref (ad 60 0)), some (.int (nI i)), o5, o6] [] (jS z n V)) : jW p l e room_1 s m args below meth c D ca q0 ad 7 Q kc ks 610 [some (.ref b), some (.ref (ad 0 0)), some (.ref (ad 20 0)), some (.ref (ad 60 0)), some (.int (nI i)), o5, o6] [] (jS z n V) := by
  obtain ⟨k, r, V1, V2, lx, lm, mc, ms, T', ⟨b1, b2, b3, b4, b5⟩, hx, hm, e0, e1, hI⟩ := C
  refine j_aload_n K 1 dL_law_610 rfl rfl ?_
  refine j_aload_n K 0 dL_law_611 rfl rfl ?_
  refine j_iload K dL_law_612 rfl ?_
  refine j_iconst K 1 dL_law_614 rfl ?_
  refine j_iadd K dL_law_615 ?_
  refine j_sald K hX (i + 1) dL_law_616 (jx_add (a := i) (b := 1) rfl rfl) (by omega) ?_
  refine j_aload_n K 0 dL_law_617 rfl rfl ?_
  refine j_iload K dL_law_618 rfl ?_
  refine j_iconst K 2 dL_law_620 rfl ?_
  refine j_iadd K dL_law_621 ?_
  refine j_sald K hX (i + 2) dL_law_622 (jx_add (a := i) (b := 2) rfl rfl) (by omega) ?_
  refine j_aload_n K 0 dL_law_623 rfl rfl ?_
  refine j_iload K dL_law_624 rfl ?_
  refine j_iconst K 3 dL_law_626 rfl ?_
  refine j_iadd K dL_law_627 ?_
  refine j_sald K hX (i + 3) dL_law_628 (jx_add (a := i) (b := 3) rfl rfl) (by omega) ?_
  refine j_aload_n K 3 dL_law_629 rfl rfl ?_
  refine j_callSH K hN dL_law_630 mw_waterMinute sw_waterMinute k_L_164 (hx z) rfl rfl (by simp [Value.category]) ⟨(by show _ ≤ 14; omega), (by show _ ≤ 518; omega)⟩ (by omega) (by omega) (fun v9 M9 hq => ?_) (fun E9 M9 hq => absurd hq.1 (fun w => nomatch w))
  obtain ⟨h9, hM⟩ := hq
  cases h9
  obtain ⟨z9, q9⟩ := M9
  cases hM
  refine j_istore K dL_law_633 (by decide) ?_
  refine j_aload_n K 2 dL_law_635 rfl rfl ?_
  refine j_aload_n K 0 dL_law_636 rfl rfl ?_
  refine j_iload K dL_law_637 rfl ?_
  refine j_iconst K 1 dL_law_639 rfl ?_
  refine j_iadd K dL_law_640 ?_
  refine j_sald K hX (i + 1) dL_law_641 (jx_add (a := i) (b := 1) rfl rfl) (by omega) ?_
  refine j_aload_n K 0 dL_law_642 rfl rfl ?_
  refine j_iload K dL_law_643 rfl ?_
  refine j_iconst K 2 dL_law_645 rfl ?_
  refine j_iadd K dL_law_646 ?_
  refine j_sald K hX (i + 2) dL_law_647 (jx_add (a := i) (b := 2) rfl rfl) (by omega) ?_
  refine j_aload_n K 0 dL_law_648 rfl rfl ?_
  refine j_iload K dL_law_649 rfl ?_
  refine j_iconst K 3 dL_law_651 rfl ?_
  refine j_iadd K dL_law_652 ?_
  refine j_sald K hX (i + 3) dL_law_653 (jx_add (a := i) (b := 3) rfl rfl) (by omega) ?_
  refine j_callV K dL_law_654 m_X6_waterMinute v_X6_waterMinute k_L_167 rfl ⟨by decide, rfl⟩ rfl (hm z9) rfl rfl (by simp [Value.category]) ⟨(by show _ ≤ 14; omega), (by show _ ≤ 518; omega)⟩ (Nat.zero_le _) (Nat.zero_le _) (fun v9 M9 hq => ?_) (fun E9 M9 hq => absurd hq.1 (fun w => nomatch w))
  obtain ⟨h9, rfl⟩ := hq
  cases h9
  refine j_istore K dL_law_657 (by decide) ?_
  refine j_aload_n K 2 dL_law_659 rfl rfl ?_
  refine j_callV K dL_law_660 m_X6_thrown v_X6_thrown k_L_139 rfl ⟨by decide, rfl⟩ rfl c_M_thrown rfl rfl (by simp [Value.category]) ⟨(by show _ ≤ 14; decide), (by show _ ≤ 518; decide)⟩ (Nat.zero_le _) (Nat.zero_le _) (fun v9 M9 hq => ?_) (fun E9 M9 hq => absurd hq.1 (fun w => nomatch w))
  obtain ⟨h9, rfl⟩ := hq
  cases h9
  refine j_iload K dL_law_663 rfl ?_
  refine j_icmp_eq K 670 dL_law_665 (by decide) (fun _ => ?_) (fun hne => absurd e0 hne)
  refine j_iload K dL_law_670 rfl ?_
  refine j_if_ne K 687 dL_law_672 (by decide) (fun hk => ?_) (fun hk => ?_)
  · refine j_goto K 2611 dL_law_687 (by decide) ?_
    exact jW_mono (kk z9 V2 T' _ _ hI b5) (by omega) (by omega)
  · refine j_aload_n K 3 dL_law_675 rfl rfl ?_
    refine j_iconst K 0 dL_law_676 rfl ?_
    refine jLald K 0 dL_law_677 rfl rfl rfl (by decide) ?_
    refine j_iload K dL_law_678 rfl ?_
    rw [e1 hk]
    refine j_i2l K dL_law_680 ?_
    refine j_lcmp K dL_law_681 ?_
    rw [lg_cmp_self]
    refine j_if_eq K 687 dL_law_682 (by decide) (fun _ => ?_) (fun hne => absurd rfl hne)
    refine j_goto K 2611 dL_law_687 (by decide) ?_
    exact jW_mono (kk z9 V2 T' _ _ hI b5) (by omega) (by omega)
set_option maxRecDepth 20000 in
set_option maxHeartbeats 400000 in
theorem law_waterHeight (K : jK p l room_1 s m args meth c D ca q0 sa RL cL_law 7 ret) (hN : jNc s) (hX : jX s q0 b L xs) (hi : i + 6 ≤ L) (C : Case l D ca q0 sa ad yL_waterHeight cL_waterHeight 6 hL_waterHeight yX6_waterHeight cX6_waterHeight 4 (some .int) [.int (xs (i + 1)), .int (xs (i + 2)), .int (xs (i + 3))] T n V) (hkc : 1 ≤ kc) (hks : 6 ≤ ks) (kk : ∀ (z : Nat) (V : jV) (T' : Nat) (o5 o6 : Option Value), Inv T' n V V → T' ≤ T + 60 → jW p l e room_1 s m args below meth c D ca q0 ad 7 Q (kc - 1) (ks - 6) 2611 [some (.ref b), some (.ref (ad 0 0)), some (.ref (ad 20 0)), some (.ref (ad 60 0)), some (.int (nI i)), o5, o6] [] (jS z n V)) : jW p l e room_1 s m args below meth c D ca q0 ad 7 Q kc ks 690 [some (.ref b), some (.ref (ad 0 0)), some (.ref (ad 20 0)), some (.ref (ad 60 0)), some (.int (nI i)), o5, o6] [] (jS z n V) := by
  obtain ⟨k, r, V1, V2, lx, lm, mc, ms, T', ⟨b1, b2, b3, b4, b5⟩, hx, hm, e0, e1, hI⟩ := C
  refine j_aload_n K 1 dL_law_690 rfl rfl ?_
  refine j_aload_n K 0 dL_law_691 rfl rfl ?_
  refine j_iload K dL_law_692 rfl ?_
  refine j_iconst K 1 dL_law_694 rfl ?_
  refine j_iadd K dL_law_695 ?_
  refine j_sald K hX (i + 1) dL_law_696 (jx_add (a := i) (b := 1) rfl rfl) (by omega) ?_
  refine j_aload_n K 0 dL_law_697 rfl rfl ?_
  refine j_iload K dL_law_698 rfl ?_
  refine j_iconst K 2 dL_law_700 rfl ?_
  refine j_iadd K dL_law_701 ?_
  refine j_sald K hX (i + 2) dL_law_702 (jx_add (a := i) (b := 2) rfl rfl) (by omega) ?_
  refine j_aload_n K 0 dL_law_703 rfl rfl ?_
  refine j_iload K dL_law_704 rfl ?_
  refine j_iconst K 3 dL_law_706 rfl ?_
  refine j_iadd K dL_law_707 ?_
  refine j_sald K hX (i + 3) dL_law_708 (jx_add (a := i) (b := 3) rfl rfl) (by omega) ?_
  refine j_aload_n K 3 dL_law_709 rfl rfl ?_
  refine j_callSH K hN dL_law_710 mw_waterHeight sw_waterHeight k_L_168 (hx z) rfl rfl (by simp [Value.category]) ⟨(by show _ ≤ 14; omega), (by show _ ≤ 518; omega)⟩ (by omega) (by omega) (fun v9 M9 hq => ?_) (fun E9 M9 hq => absurd hq.1 (fun w => nomatch w))
  obtain ⟨h9, hM⟩ := hq
  cases h9
  obtain ⟨z9, q9⟩ := M9
  cases hM
  refine j_istore K dL_law_713 (by decide) ?_
  refine j_aload_n K 2 dL_law_715 rfl rfl ?_
  refine j_aload_n K 0 dL_law_716 rfl rfl ?_
  refine j_iload K dL_law_717 rfl ?_
  refine j_iconst K 1 dL_law_719 rfl ?_
  refine j_iadd K dL_law_720 ?_
  refine j_sald K hX (i + 1) dL_law_721 (jx_add (a := i) (b := 1) rfl rfl) (by omega) ?_
  refine j_aload_n K 0 dL_law_722 rfl rfl ?_
  refine j_iload K dL_law_723 rfl ?_
  refine j_iconst K 2 dL_law_725 rfl ?_
  refine j_iadd K dL_law_726 ?_
  refine j_sald K hX (i + 2) dL_law_727 (jx_add (a := i) (b := 2) rfl rfl) (by omega) ?_
  refine j_aload_n K 0 dL_law_728 rfl rfl ?_
  refine j_iload K dL_law_729 rfl ?_
  refine j_iconst K 3 dL_law_731 rfl ?_
  refine j_iadd K dL_law_732 ?_
  refine j_sald K hX (i + 3) dL_law_733 (jx_add (a := i) (b := 3) rfl rfl) (by omega) ?_
  refine j_callV K dL_law_734 m_X6_waterHeight v_X6_waterHeight k_L_170 rfl ⟨by decide, rfl⟩ rfl (hm z9) rfl rfl (by simp [Value.category]) ⟨(by show _ ≤ 14; omega), (by show _ ≤ 518; omega)⟩ (Nat.zero_le _) (Nat.zero_le _) (fun v9 M9 hq => ?_) (fun E9 M9 hq => absurd hq.1 (fun w => nomatch w))
  obtain ⟨h9, rfl⟩ := hq
  cases h9
  refine j_istore K dL_law_737 (by decide) ?_
  refine j_aload_n K 2 dL_law_739 rfl rfl ?_
  refine j_callV K dL_law_740 m_X6_thrown v_X6_thrown k_L_139 rfl ⟨by decide, rfl⟩ rfl c_M_thrown rfl rfl (by simp [Value.category]) ⟨(by show _ ≤ 14; decide), (by show _ ≤ 518; decide)⟩ (Nat.zero_le _) (Nat.zero_le _) (fun v9 M9 hq => ?_) (fun E9 M9 hq => absurd hq.1 (fun w => nomatch w))
  obtain ⟨h9, rfl⟩ := hq
  cases h9
  refine j_iload K dL_law_743 rfl ?_
  refine j_icmp_eq K 750 dL_law_745 (by decide) (fun _ => ?_) (fun hne => absurd e0 hne)
  refine j_iload K dL_law_750 rfl ?_
  refine j_if_ne K 767 dL_law_752 (by decide) (fun hk => ?_) (fun hk => ?_)
  · refine j_goto K 2611 dL_law_767 (by decide) ?_
    exact jW_mono (kk z9 V2 T' _ _ hI b5) (by omega) (by omega)
  · refine j_aload_n K 3 dL_law_755 rfl rfl ?_
    refine j_iconst K 0 dL_law_756 rfl ?_
    refine jLald K 0 dL_law_757 rfl rfl rfl (by decide) ?_
    refine j_iload K dL_law_758 rfl ?_
    rw [e1 hk]
    refine j_i2l K dL_law_760 ?_
    refine j_lcmp K dL_law_761 ?_
    rw [lg_cmp_self]
    refine j_if_eq K 767 dL_law_762 (by decide) (fun _ => ?_) (fun hne => absurd rfl hne)
    refine j_goto K 2611 dL_law_767 (by decide) ?_
    exact jW_mono (kk z9 V2 T' _ _ hI b5) (by omega) (by omega)
set_option maxRecDepth 20000 in
set_option maxHeartbeats 400000 in
theorem law_isHighWater (K : jK p l room_1 s m args meth c D ca q0 sa RL cL_law 7 ret) (hN : jNc s) (hX : jX s q0 b L xs) (hi : i + 6 ≤ L) (C : CaseB l D ca q0 sa ad yL_isHighWater cL_isHighWater 6 hL_isHighWater yX6_isHighWater cX6_isHighWater 4 (some .boolean) [.int (xs (i + 1)), .int (xs (i + 2)), .int (xs (i + 3))] T n V) (hkc : 1 ≤ kc) (hks : 6 ≤ ks) (kk : ∀ (z : Nat) (V : jV) (T' : Nat) (o5 o6 : Option Value), Inv T' n V V → T' ≤ T + 60 → jW p l e room_1 s m args below meth c D ca q0 ad 7 Q (kc - 1) (ks - 6) 2611 [some (.ref b), some (.ref (ad 0 0)), some (.ref (ad 20 0)), some (.ref (ad 60 0)), some (.int (nI i)), o5, o6] [] (jS z n V)) : jW p l e room_1 s m args below meth c D ca q0 ad 7 Q kc ks 770 [some (.ref b), some (.ref (ad 0 0)), some (.ref (ad 20 0)), some (.ref (ad 60 0)), some (.int (nI i)), o5, o6] [] (jS z n V) := by
  obtain ⟨k, r, V1, V2, lx, lm, mc, ms, T', ⟨b1, b2, b3, b4, b5⟩, hx, hm, e0, e1, e2, hI⟩ := C
  refine j_aload_n K 1 dL_law_770 rfl rfl ?_
  refine j_aload_n K 0 dL_law_771 rfl rfl ?_
  refine j_iload K dL_law_772 rfl ?_
  refine j_iconst K 1 dL_law_774 rfl ?_
  refine j_iadd K dL_law_775 ?_
  refine j_sald K hX (i + 1) dL_law_776 (jx_add (a := i) (b := 1) rfl rfl) (by omega) ?_
  refine j_aload_n K 0 dL_law_777 rfl rfl ?_
  refine j_iload K dL_law_778 rfl ?_
  refine j_iconst K 2 dL_law_780 rfl ?_
  refine j_iadd K dL_law_781 ?_
  refine j_sald K hX (i + 2) dL_law_782 (jx_add (a := i) (b := 2) rfl rfl) (by omega) ?_
  refine j_aload_n K 0 dL_law_783 rfl rfl ?_
  refine j_iload K dL_law_784 rfl ?_
  refine j_iconst K 3 dL_law_786 rfl ?_
  refine j_iadd K dL_law_787 ?_
  refine j_sald K hX (i + 3) dL_law_788 (jx_add (a := i) (b := 3) rfl rfl) (by omega) ?_
  refine j_aload_n K 3 dL_law_789 rfl rfl ?_
  refine j_callSH K hN dL_law_790 mw_isHighWater sw_isHighWater k_L_171 (hx z) rfl rfl (by simp [Value.category]) ⟨(by show _ ≤ 14; omega), (by show _ ≤ 518; omega)⟩ (by omega) (by omega) (fun v9 M9 hq => ?_) (fun E9 M9 hq => absurd hq.1 (fun w => nomatch w))
  obtain ⟨h9, hM⟩ := hq
  cases h9
  obtain ⟨z9, q9⟩ := M9
  cases hM
  refine j_istore K dL_law_793 (by decide) ?_
  refine j_aload_n K 2 dL_law_795 rfl rfl ?_
  refine j_aload_n K 0 dL_law_796 rfl rfl ?_
  refine j_iload K dL_law_797 rfl ?_
  refine j_iconst K 1 dL_law_799 rfl ?_
  refine j_iadd K dL_law_800 ?_
  refine j_sald K hX (i + 1) dL_law_801 (jx_add (a := i) (b := 1) rfl rfl) (by omega) ?_
  refine j_aload_n K 0 dL_law_802 rfl rfl ?_
  refine j_iload K dL_law_803 rfl ?_
  refine j_iconst K 2 dL_law_805 rfl ?_
  refine j_iadd K dL_law_806 ?_
  refine j_sald K hX (i + 2) dL_law_807 (jx_add (a := i) (b := 2) rfl rfl) (by omega) ?_
  refine j_aload_n K 0 dL_law_808 rfl rfl ?_
  refine j_iload K dL_law_809 rfl ?_
  refine j_iconst K 3 dL_law_811 rfl ?_
  refine j_iadd K dL_law_812 ?_
  refine j_sald K hX (i + 3) dL_law_813 (jx_add (a := i) (b := 3) rfl rfl) (by omega) ?_
  refine j_callV K dL_law_814 m_X6_isHighWater v_X6_isHighWater k_L_173 rfl ⟨by decide, rfl⟩ rfl (hm z9) rfl rfl (by simp [Value.category]) ⟨(by show _ ≤ 14; omega), (by show _ ≤ 518; omega)⟩ (Nat.zero_le _) (Nat.zero_le _) (fun v9 M9 hq => ?_) (fun E9 M9 hq => absurd hq.1 (fun w => nomatch w))
  obtain ⟨h9, rfl⟩ := hq
  cases h9
  refine j_istore K dL_law_817 (by decide) ?_
  refine j_aload_n K 2 dL_law_819 rfl rfl ?_
  refine j_callV K dL_law_820 m_X6_thrown v_X6_thrown k_L_139 rfl ⟨by decide, rfl⟩ rfl c_M_thrown rfl rfl (by simp [Value.category]) ⟨(by show _ ≤ 14; decide), (by show _ ≤ 518; decide)⟩ (Nat.zero_le _) (Nat.zero_le _) (fun v9 M9 hq => ?_) (fun E9 M9 hq => absurd hq.1 (fun w => nomatch w))
  obtain ⟨h9, rfl⟩ := hq
  cases h9
  refine j_iload K dL_law_823 rfl ?_
  refine j_icmp_eq K 830 dL_law_825 (by decide) (fun _ => ?_) (fun hne => absurd e0 hne)
  refine j_iload K dL_law_830 rfl ?_
  refine j_if_ne K 854 dL_law_832 (by decide) (fun hk => ?_) (fun hk => ?_)
  · refine j_goto K 2611 dL_law_854 (by decide) ?_
    exact jW_mono (kk z9 V2 T' _ _ hI b5) (by omega) (by omega)
  · refine j_aload_n K 3 dL_law_835 rfl rfl ?_
    refine j_iconst K 0 dL_law_836 rfl ?_
    refine jLald K 0 dL_law_837 rfl rfl rfl (by decide) ?_
    refine j_iload K dL_law_838 rfl ?_
    rw [e1 hk]
    refine j_if_eq K 847 dL_law_840 (by decide) (fun hz => ?_) (fun hz => ?_)
    · refine j_lconst K 0 dL_law_847 rfl ?_
      refine j_lcmp K dL_law_848 ?_
      rw [show lg_cmp r.toInt64 0 = 0 from by rw [hz]; exact lg_cmp_self 0]
      refine j_if_eq K 854 dL_law_849 (by decide) (fun _ => ?_) (fun hne => absurd rfl hne)
      refine j_goto K 2611 dL_law_854 (by decide) ?_
      exact jW_mono (kk z9 V2 T' _ _ hI b5) (by omega) (by omega)
    · refine j_lconst K 1 dL_law_843 rfl ?_
      refine j_goto K 848 dL_law_844 (by decide) ?_
      refine j_lcmp K dL_law_848 ?_
      rw [show lg_cmp r.toInt64 1 = 0 from by rw [(e2 hk).resolve_left hz]; exact lg_cmp_self 1]
      refine j_if_eq K 854 dL_law_849 (by decide) (fun _ => ?_) (fun hne => absurd rfl hne)
      refine j_goto K 2611 dL_law_854 (by decide) ?_
      exact jW_mono (kk z9 V2 T' _ _ hI b5) (by omega) (by omega)
set_option maxRecDepth 20000 in
set_option maxHeartbeats 400000 in
theorem law_minutesToHighWater (K : jK p l room_1 s m args meth c D ca q0 sa RL cL_law 7 ret) (hN : jNc s) (hX : jX s q0 b L xs) (hi : i + 6 ≤ L) (C : Case l D ca q0 sa ad yL_minutesToHighWater cL_minutesToHighWater 6 hL_minutesToHighWater yX6_minutesToHighWater cX6_minutesToHighWater 5 (some .int) [.int (xs (i + 1)), .int (xs (i + 2)), .int (xs (i + 3))] T n V) (hkc : 1 ≤ kc) (hks : 6 ≤ ks) (kk : ∀ (z : Nat) (V : jV) (T' : Nat) (o5 o6 : Option Value), Inv T' n V V → T' ≤ T + 60 → jW p l e room_1 s m args below meth c D ca q0 ad 7 Q (kc - 1) (ks - 6) 2611 [some (.ref b), some (.ref (ad 0 0)), some (.ref (ad 20 0)), some (.ref (ad 60 0)), some (.int (nI i)), o5, o6] [] (jS z n V)) : jW p l e room_1 s m args below meth c D ca q0 ad 7 Q kc ks 857 [some (.ref b), some (.ref (ad 0 0)), some (.ref (ad 20 0)), some (.ref (ad 60 0)), some (.int (nI i)), o5, o6] [] (jS z n V) := by
  obtain ⟨k, r, V1, V2, lx, lm, mc, ms, T', ⟨b1, b2, b3, b4, b5⟩, hx, hm, e0, e1, hI⟩ := C
  refine j_aload_n K 1 dL_law_857 rfl rfl ?_
  refine j_aload_n K 0 dL_law_858 rfl rfl ?_
  refine j_iload K dL_law_859 rfl ?_
  refine j_iconst K 1 dL_law_861 rfl ?_
  refine j_iadd K dL_law_862 ?_
  refine j_sald K hX (i + 1) dL_law_863 (jx_add (a := i) (b := 1) rfl rfl) (by omega) ?_
  refine j_aload_n K 0 dL_law_864 rfl rfl ?_
  refine j_iload K dL_law_865 rfl ?_
  refine j_iconst K 2 dL_law_867 rfl ?_
  refine j_iadd K dL_law_868 ?_
  refine j_sald K hX (i + 2) dL_law_869 (jx_add (a := i) (b := 2) rfl rfl) (by omega) ?_
  refine j_aload_n K 0 dL_law_870 rfl rfl ?_
  refine j_iload K dL_law_871 rfl ?_
  refine j_iconst K 3 dL_law_873 rfl ?_
  refine j_iadd K dL_law_874 ?_
  refine j_sald K hX (i + 3) dL_law_875 (jx_add (a := i) (b := 3) rfl rfl) (by omega) ?_
  refine j_aload_n K 3 dL_law_876 rfl rfl ?_
  refine j_callSH K hN dL_law_877 mw_minutesToHighWater sw_minutesToHighWater k_L_174 (hx z) rfl rfl (by simp [Value.category]) ⟨(by show _ ≤ 14; omega), (by show _ ≤ 518; omega)⟩ (by omega) (by omega) (fun v9 M9 hq => ?_) (fun E9 M9 hq => absurd hq.1 (fun w => nomatch w))
  obtain ⟨h9, hM⟩ := hq
  cases h9
  obtain ⟨z9, q9⟩ := M9
  cases hM
  refine j_istore K dL_law_880 (by decide) ?_
  refine j_aload_n K 2 dL_law_882 rfl rfl ?_
  refine j_aload_n K 0 dL_law_883 rfl rfl ?_
  refine j_iload K dL_law_884 rfl ?_
  refine j_iconst K 1 dL_law_886 rfl ?_
  refine j_iadd K dL_law_887 ?_
  refine j_sald K hX (i + 1) dL_law_888 (jx_add (a := i) (b := 1) rfl rfl) (by omega) ?_
  refine j_aload_n K 0 dL_law_889 rfl rfl ?_
  refine j_iload K dL_law_890 rfl ?_
  refine j_iconst K 2 dL_law_892 rfl ?_
  refine j_iadd K dL_law_893 ?_
  refine j_sald K hX (i + 2) dL_law_894 (jx_add (a := i) (b := 2) rfl rfl) (by omega) ?_
  refine j_aload_n K 0 dL_law_895 rfl rfl ?_
  refine j_iload K dL_law_896 rfl ?_
  refine j_iconst K 3 dL_law_898 rfl ?_
  refine j_iadd K dL_law_899 ?_
  refine j_sald K hX (i + 3) dL_law_900 (jx_add (a := i) (b := 3) rfl rfl) (by omega) ?_
  refine j_callV K dL_law_901 m_X6_minutesToHighWater v_X6_minutesToHighWater k_L_176 rfl ⟨by decide, rfl⟩ rfl (hm z9) rfl rfl (by simp [Value.category]) ⟨(by show _ ≤ 14; omega), (by show _ ≤ 518; omega)⟩ (Nat.zero_le _) (Nat.zero_le _) (fun v9 M9 hq => ?_) (fun E9 M9 hq => absurd hq.1 (fun w => nomatch w))
  obtain ⟨h9, rfl⟩ := hq
  cases h9
  refine j_istore K dL_law_904 (by decide) ?_
  refine j_aload_n K 2 dL_law_906 rfl rfl ?_
  refine j_callV K dL_law_907 m_X6_thrown v_X6_thrown k_L_139 rfl ⟨by decide, rfl⟩ rfl c_M_thrown rfl rfl (by simp [Value.category]) ⟨(by show _ ≤ 14; decide), (by show _ ≤ 518; decide)⟩ (Nat.zero_le _) (Nat.zero_le _) (fun v9 M9 hq => ?_) (fun E9 M9 hq => absurd hq.1 (fun w => nomatch w))
  obtain ⟨h9, rfl⟩ := hq
  cases h9
  refine j_iload K dL_law_910 rfl ?_
  refine j_icmp_eq K 917 dL_law_912 (by decide) (fun _ => ?_) (fun hne => absurd e0 hne)
  refine j_iload K dL_law_917 rfl ?_
  refine j_if_ne K 934 dL_law_919 (by decide) (fun hk => ?_) (fun hk => ?_)
  · refine j_goto K 2611 dL_law_934 (by decide) ?_
    exact jW_mono (kk z9 V2 T' _ _ hI b5) (by omega) (by omega)
  · refine j_aload_n K 3 dL_law_922 rfl rfl ?_
    refine j_iconst K 0 dL_law_923 rfl ?_
    refine jLald K 0 dL_law_924 rfl rfl rfl (by decide) ?_
    refine j_iload K dL_law_925 rfl ?_
    rw [e1 hk]
    refine j_i2l K dL_law_927 ?_
    refine j_lcmp K dL_law_928 ?_
    rw [lg_cmp_self]
    refine j_if_eq K 934 dL_law_929 (by decide) (fun _ => ?_) (fun hne => absurd rfl hne)
    refine j_goto K 2611 dL_law_934 (by decide) ?_
    exact jW_mono (kk z9 V2 T' _ _ hI b5) (by omega) (by omega)
end W
