section W
variable {p : Program} {l : Launch} {e : Env} {s : State} {m : MethodId} {args : Array Value} {below : List Frame} {meth : Method} {c : Code} {D : va_G} {ca : Nat → ClassId} {q0 : Nat} {sa : Nat → Nat} {Q : State → Prop} {b L : Nat} {xs : Nat → Int32} {ad : jAd} {z n i T : Nat} {V : jV} {o5 o6 : Option Value} {kc ks : Nat}
/-- the addresses of a new pier's twelve objects -/
def pAd (ad : jAd) (n z : Nat) : jAd := fun k i => if i = n then (match k with | 10 => z | 15 => z + 1 | 6 => z + 2 | 7 => z + 3 | 8 => z + 4 | 9 => z + 5 | 16 => z + 6 | 17 => z + 7 | 11 => z + 8 | 12 => z + 9 | 13 => z + 10 | 14 => z + 11 | _ => ad k i) else ad k i
theorem lv_dead {n k : Nat} (hn : n < 6) (hk : 6 ≤ k ∧ k ≤ 17) : LV n k n = false := by
  rcases (show k = 6 ∨ k = 7 ∨ k = 8 ∨ k = 9 ∨ k = 10 ∨ k = 11 ∨ k = 12 ∨ k = 13 ∨ k = 14 ∨ k = 15 ∨ k = 16 ∨ k = 17 by omega) with e | e | e | e | e | e | e | e | e | e | e | e <;> subst e <;> exact decide_eq_false (by omega)
theorem pAd_live {ad : jAd} {n z k i : Nat} (hn : n < 6) (h : LV n k i = true) : pAd ad n z k i = ad k i := by
  unfold pAd
  by_cases e : i = n
  · subst e
    rw [if_pos rfl]
    by_cases hk : 6 ≤ k ∧ k ≤ 17
    · rw [lv_dead hn hk] at h; exact absurd h (by decide)
    · split <;> first | rfl | (exfalso; omega)
  · rw [if_neg e]
theorem v1_hi {V : jV} {n k i j : Nat} {b1 b2 b3 b4 b5 x : Int32} (h : 20 ≤ k) : up (v1 (clV V 10 n) n b1 b2 b3 b4 b5) 0 0 1 x k i j = V k i j := by
  unfold v1 v2 v0 v3 clV up
  dsimp only
  repeat rw [if_neg (by omega)]

set_option maxRecDepth 20000 in
set_option maxHeartbeats 400000 in
theorem law_addPier0 (K : jK p l room_1 s m args meth c D ca q0 sa RL cL_law 7 ret) (hN : jNc s) (hX : jX s q0 b L xs) (hi : i + 6 ≤ L) (h : Inv T n V V) (hn : n < 6) (hA : okA (xs (i + 1)) (xs (i + 2)) (xs (i + 3)) (xs (i + 4)) (xs (i + 5))) (hkc : 12 ≤ kc) (hks : 60 ≤ ks) (kk : ∀ (ad : jAd) (z : Nat) (V : jV) (T' : Nat) (o5 o6 : Option Value), Inv T' (n + 1) V V → T' ≤ T + 60 → jW p l e room_1 s m args below meth c D ca q0 ad 7 Q (kc - 12) (ks - 60) 2611 [some (.ref b), some (.ref (ad 0 0)), some (.ref (ad 20 0)), some (.ref (ad 60 0)), some (.int (nI i)), o5, o6] [] (jS z (n + 1) V)) : jW p l e room_1 s m args below meth c D ca q0 ad 7 Q kc ks 232 [some (.ref b), some (.ref (ad 0 0)), some (.ref (ad 20 0)), some (.ref (ad 60 0)), some (.int (nI i)), o5, o6] [] (jS z n V) := by
  have e0 : pAd ad n z 0 0 = ad 0 0 := pAd_live hn rfl
  have e20 : pAd ad n z 20 0 = ad 20 0 := pAd_live hn rfl
  have e60 : pAd ad n z 60 0 = ad 60 0 := pAd_live hn rfl
  rw [← e0, ← e20, ← e60]
  refine j_ad (ad' := pAd ad n z) (M' := jS z n V) (fun H hr => jRep_ad hr (fun k i hl => pAd_live hn hl)) ?_
  have a10 : pAd ad n z 10 n = z := if_pos rfl
  have a15 : pAd ad n z 15 n = z + 1 := if_pos rfl
  have a6 : pAd ad n z 6 n = z + 2 := if_pos rfl
  have a7 : pAd ad n z 7 n = z + 3 := if_pos rfl
  have a8 : pAd ad n z 8 n = z + 4 := if_pos rfl
  have a9 : pAd ad n z 9 n = z + 5 := if_pos rfl
  have a16 : pAd ad n z 16 n = z + 6 := if_pos rfl
  have a17 : pAd ad n z 17 n = z + 7 := if_pos rfl
  have a11 : pAd ad n z 11 n = z + 8 := if_pos rfl
  have a12 : pAd ad n z 12 n = z + 9 := if_pos rfl
  have a13 : pAd ad n z 13 n = z + 10 := if_pos rfl
  have a14 : pAd ad n z 14 n = z + 11 := if_pos rfl
  generalize pAd ad n z = ad at *
  have hx := wr_addPier (l := l) (D := D) (ca := ca) (q0 := q0) (sa := sa) (ad := ad) (xs (i + 1)) (xs (i + 2)) (xs (i + 3)) (xs (i + 4)) (xs (i + 5)) (nI n) rfl ((lv_more n 60 0).symm.trans rfl) (c_addPier (z := z) (Lv := LV n) (V := V) (Rf := RF n) (xs (i + 1)) (xs (i + 2)) (xs (i + 3)) (xs (i + 4)) (xs (i + 5)) hA h.1.2.1 hn rfl rfl rfl rfl (lv_dead hn (by decide)) (lv_dead hn (by decide)) (lv_dead hn (by decide)) (lv_dead hn (by decide)) (lv_dead hn (by decide)) (lv_dead hn (by decide)) (lv_dead hn (by decide)) (lv_dead hn (by decide)) (lv_dead hn (by decide)) (lv_dead hn (by decide)) (lv_dead hn (by decide)) (lv_dead hn (by decide)) a10 a15 a6 a7 a8 a9 a16 a17 a11 a12 a13 a14)
  have hG := Inv_go (v := nI n) (x := 0) h (X := up (v1 (clV V 10 n) n (xs (i + 1)) (xs (i + 2)) (xs (i + 3)) (xs (i + 4)) (xs (i + 5))) 0 0 1 (nI n + 1)) (fun k i j z => v1_hi z)
  have g := Inv_pier hG hn hA
  have hm := fun z9 : Nat => c_M_addPier (l := l) (D := D) (ca := ca) (q0 := q0) (sa := sa) (ad := ad) (z := z9) (n := n) (u := n + 1) (V := up (up (v1 (clV V 10 n) n (xs (i + 1)) (xs (i + 2)) (xs (i + 3)) (xs (i + 4)) (xs (i + 5))) 0 0 1 (nI n + 1)) 60 0 0 (nI n)) (xs (i + 1)) (xs (i + 2)) (xs (i + 3)) (xs (i + 4)) (xs (i + 5)) hA hn (by rw [out_o (by omega)]; exact (v1_hi (by omega)).trans h.1.2.2.1)
  have g1 := Inv_stop g (v := nI n) (x := 0) (fun k i j z => by
    rw [upk_o (by omega), upk_o (by omega), upk_o (by omega), upk_o (by omega), upk_o (by omega), upk_o (by omega)])
  have y0 : (up (up (up (up (up (up (thr (up (up (v1 (clV V 10 n) n (xs (i + 1)) (xs (i + 2)) (xs (i + 3)) (xs (i + 4)) (xs (i + 5))) 0 0 1 (nI n + 1)) 60 0 0 (nI n)) 0) 24 0 n (xs (i + 1))) 25 0 n (xs (i + 2))) 26 0 n (xs (i + 3))) 27 0 n (xs (i + 4))) 28 0 n (xs (i + 5))) 20 0 1 (nI n + 1)) 20 0 0 = 0 := by
    rw [upk_o (by omega), upk_o (by omega), upk_o (by omega), upk_o (by omega), upk_o (by omega), upk_o (by omega)]; exact thr_at
  have y6 : (up (up (up (up (up (up (thr (up (up (v1 (clV V 10 n) n (xs (i + 1)) (xs (i + 2)) (xs (i + 3)) (xs (i + 4)) (xs (i + 5))) 0 0 1 (nI n + 1)) 60 0 0 (nI n)) 0) 24 0 n (xs (i + 1))) 25 0 n (xs (i + 2))) 26 0 n (xs (i + 3))) 27 0 n (xs (i + 4))) 28 0 n (xs (i + 5))) 20 0 1 (nI n + 1)) 60 0 0 = nI n := by
    rw [upk_o (by omega), upk_o (by omega), upk_o (by omega), upk_o (by omega), upk_o (by omega), upk_o (by omega)]; exact thr_60
  generalize up (up (up (up (up (up (thr (up (up (v1 (clV V 10 n) n (xs (i + 1)) (xs (i + 2)) (xs (i + 3)) (xs (i + 4)) (xs (i + 5))) 0 0 1 (nI n + 1)) 60 0 0 (nI n)) 0) 24 0 n (xs (i + 1))) 25 0 n (xs (i + 2))) 26 0 n (xs (i + 3))) 27 0 n (xs (i + 4))) 28 0 n (xs (i + 5))) 20 0 1 (nI n + 1) = Y at *
  generalize up (v1 (clV V 10 n) n (xs (i + 1)) (xs (i + 2)) (xs (i + 3)) (xs (i + 4)) (xs (i + 5))) 0 0 1 (nI n + 1) = X at *
  refine j_aload_n K 1 dL_law_232 rfl rfl ?_
  refine j_aload_n K 0 dL_law_233 rfl rfl ?_
  refine j_iload K dL_law_234 rfl ?_
  refine j_iconst K 1 dL_law_236 rfl ?_
  refine j_iadd K dL_law_237 ?_
  refine j_sald K hX (i + 1) dL_law_238 (jx_add (a := i) (b := 1) rfl rfl) (by omega) ?_
  refine j_aload_n K 0 dL_law_239 rfl rfl ?_
  refine j_iload K dL_law_240 rfl ?_
  refine j_iconst K 2 dL_law_242 rfl ?_
  refine j_iadd K dL_law_243 ?_
  refine j_sald K hX (i + 2) dL_law_244 (jx_add (a := i) (b := 2) rfl rfl) (by omega) ?_
  refine j_aload_n K 0 dL_law_245 rfl rfl ?_
  refine j_iload K dL_law_246 rfl ?_
  refine j_iconst K 3 dL_law_248 rfl ?_
  refine j_iadd K dL_law_249 ?_
  refine j_sald K hX (i + 3) dL_law_250 (jx_add (a := i) (b := 3) rfl rfl) (by omega) ?_
  refine j_aload_n K 0 dL_law_251 rfl rfl ?_
  refine j_iload K dL_law_252 rfl ?_
  refine j_iconst K 4 dL_law_254 rfl ?_
  refine j_iadd K dL_law_255 ?_
  refine j_sald K hX (i + 4) dL_law_256 (jx_add (a := i) (b := 4) rfl rfl) (by omega) ?_
  refine j_aload_n K 0 dL_law_257 rfl rfl ?_
  refine j_iload K dL_law_258 rfl ?_
  refine j_iconst K 5 dL_law_260 rfl ?_
  refine j_iadd K dL_law_261 ?_
  refine j_sald K hX (i + 5) dL_law_262 (jx_add (a := i) (b := 5) rfl rfl) (by omega) ?_
  refine j_aload_n K 3 dL_law_263 rfl rfl ?_
  refine j_callSH K hN dL_law_264 mw_addPier sw_addPier k_L_133 hx rfl rfl (by simp [Value.category]) ⟨(by show _ ≤ 14; decide), (by show _ ≤ 518; decide)⟩ hkc hks (fun v9 M9 hq => ?_) (fun E9 M9 hq => absurd hq.1 (fun w => nomatch w))
  obtain ⟨h9, hM⟩ := hq
  cases h9
  obtain ⟨z9, q9⟩ := M9
  cases hM
  refine j_ad (ad' := ad) (M' := jS z9 (n + 1) (up X 60 0 0 (nI n))) (fun H hr => pier_end hr) ?_
  refine j_istore K dL_law_267 (by decide) ?_
  refine j_aload_n K 2 dL_law_269 rfl rfl ?_
  refine j_aload_n K 0 dL_law_270 rfl rfl ?_
  refine j_iload K dL_law_271 rfl ?_
  refine j_iconst K 1 dL_law_273 rfl ?_
  refine j_iadd K dL_law_274 ?_
  refine j_sald K hX (i + 1) dL_law_275 (jx_add (a := i) (b := 1) rfl rfl) (by omega) ?_
  refine j_aload_n K 0 dL_law_276 rfl rfl ?_
  refine j_iload K dL_law_277 rfl ?_
  refine j_iconst K 2 dL_law_279 rfl ?_
  refine j_iadd K dL_law_280 ?_
  refine j_sald K hX (i + 2) dL_law_281 (jx_add (a := i) (b := 2) rfl rfl) (by omega) ?_
  refine j_aload_n K 0 dL_law_282 rfl rfl ?_
  refine j_iload K dL_law_283 rfl ?_
  refine j_iconst K 3 dL_law_285 rfl ?_
  refine j_iadd K dL_law_286 ?_
  refine j_sald K hX (i + 3) dL_law_287 (jx_add (a := i) (b := 3) rfl rfl) (by omega) ?_
  refine j_aload_n K 0 dL_law_288 rfl rfl ?_
  refine j_iload K dL_law_289 rfl ?_
  refine j_iconst K 4 dL_law_291 rfl ?_
  refine j_iadd K dL_law_292 ?_
  refine j_sald K hX (i + 4) dL_law_293 (jx_add (a := i) (b := 4) rfl rfl) (by omega) ?_
  refine j_aload_n K 0 dL_law_294 rfl rfl ?_
  refine j_iload K dL_law_295 rfl ?_
  refine j_iconst K 5 dL_law_297 rfl ?_
  refine j_iadd K dL_law_298 ?_
  refine j_sald K hX (i + 5) dL_law_299 (jx_add (a := i) (b := 5) rfl rfl) (by omega) ?_
  refine j_callV K dL_law_300 m_X6_addPier v_X6_addPier k_L_138 rfl ⟨by decide, rfl⟩ rfl (hm z9) rfl rfl (by simp [Value.category]) ⟨(by show _ ≤ 14; decide), (by show _ ≤ 518; decide)⟩ (Nat.zero_le _) (Nat.zero_le _) (fun v9 M9 hq => ?_) (fun E9 M9 hq => absurd hq.1 (fun w => nomatch w))
  obtain ⟨h9, rfl⟩ := hq
  cases h9
  refine j_istore K dL_law_303 (by decide) ?_
  refine j_aload_n K 2 dL_law_305 rfl rfl ?_
  refine j_callV K dL_law_306 m_X6_thrown v_X6_thrown k_L_139 rfl ⟨by decide, rfl⟩ rfl c_M_thrown rfl rfl (by simp [Value.category]) ⟨(by show _ ≤ 14; decide), (by show _ ≤ 518; decide)⟩ (Nat.zero_le _) (Nat.zero_le _) (fun v9 M9 hq => ?_) (fun E9 M9 hq => absurd hq.1 (fun w => nomatch w))
  obtain ⟨h9, rfl⟩ := hq
  cases h9
  refine j_iload K dL_law_309 rfl ?_
  refine j_icmp_eq K 316 dL_law_311 (by decide) (fun _ => ?_) (fun hne => absurd y0 hne)
  refine j_iload K dL_law_316 rfl ?_
  refine j_if_ne K 333 dL_law_318 (by decide) (fun hk => absurd rfl hk) (fun hk => ?_)
  refine j_aload_n K 3 dL_law_321 rfl rfl ?_
  refine j_iconst K 0 dL_law_322 rfl ?_
  refine jLald K 0 dL_law_323 rfl rfl rfl (by decide) ?_
  refine j_iload K dL_law_324 rfl ?_
  rw [y6]
  refine j_i2l K dL_law_326 ?_
  refine j_lcmp K dL_law_327 ?_
  rw [lg_cmp_self]
  refine j_if_eq K 333 dL_law_328 (by decide) (fun _ => ?_) (fun hne => absurd rfl hne)
  refine j_goto K 2611 dL_law_333 (by decide) ?_
  exact jW_mono (kk ad z9 Y T _ _ g1 (by omega)) (by omega) (by omega)
end W
