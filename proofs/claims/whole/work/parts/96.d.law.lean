section W
variable {p : Program} {l : Launch} {e : Env} {s : State} {m : MethodId} {args : Array Value} {below : List Frame} {meth : Method} {c : Code} {D : va_G} {ca : Nat → ClassId} {q0 : Nat} {sa : Nat → Nat} {Q : State → Prop} {b L : Nat} {xs : Nat → Int32} {ad : jAd} {z n i T : Nat} {V : jV} {o5 o6 : Option Value} {kc ks : Nat}
set_option maxRecDepth 20000 in
set_option maxHeartbeats 400000 in
theorem law_giveUpJob (K : jK p l room_1 s m args meth c D ca q0 sa RL cL_law 7 ret) (hN : jNc s) (hX : jX s q0 b L xs) (hi : i + 6 ≤ L) (C : Case l D ca q0 sa ad yL_giveUpJob cL_giveUpJob 3 hL_giveUpJob yX6_giveUpJob cX6_giveUpJob 1 (some .int) [] T n V) (hkc : 1 ≤ kc) (hks : 6 ≤ ks) (kk : ∀ (z : Nat) (V : jV) (T' : Nat) (o5 o6 : Option Value), Inv T' n V V → T' ≤ T + 60 → jW p l e room_1 s m args below meth c D ca q0 ad 7 Q (kc - 1) (ks - 6) 2611 [some (.ref b), some (.ref (ad 0 0)), some (.ref (ad 20 0)), some (.ref (ad 60 0)), some (.int (nI i)), o5, o6] [] (jS z n V)) : jW p l e room_1 s m args below meth c D ca q0 ad 7 Q kc ks 2007 [some (.ref b), some (.ref (ad 0 0)), some (.ref (ad 20 0)), some (.ref (ad 60 0)), some (.int (nI i)), o5, o6] [] (jS z n V) := by
  obtain ⟨k, r, V1, V2, lx, lm, mc, ms, T', ⟨b1, b2, b3, b4, b5⟩, hx, hm, e0, e1, hI⟩ := C
  refine j_aload_n K 1 dL_law_2007 rfl rfl ?_
  refine j_aload_n K 3 dL_law_2008 rfl rfl ?_
  refine j_callSH K hN dL_law_2009 mw_giveUpJob sw_giveUpJob k_L_249 (hx z) rfl rfl (by simp [Value.category]) ⟨(by show _ ≤ 14; omega), (by show _ ≤ 518; omega)⟩ (by omega) (by omega) (fun v9 M9 hq => ?_) (fun E9 M9 hq => absurd hq.1 (fun w => nomatch w))
  obtain ⟨h9, hM⟩ := hq
  cases h9
  obtain ⟨z9, q9⟩ := M9
  cases hM
  refine j_istore K dL_law_2012 (by decide) ?_
  refine j_aload_n K 2 dL_law_2014 rfl rfl ?_
  refine j_callV K dL_law_2015 m_X6_giveUpJob v_X6_giveUpJob k_L_252 rfl ⟨by decide, rfl⟩ rfl (hm z9) rfl rfl (by simp [Value.category]) ⟨(by show _ ≤ 14; omega), (by show _ ≤ 518; omega)⟩ (Nat.zero_le _) (Nat.zero_le _) (fun v9 M9 hq => ?_) (fun E9 M9 hq => absurd hq.1 (fun w => nomatch w))
  obtain ⟨h9, rfl⟩ := hq
  cases h9
  refine j_istore K dL_law_2018 (by decide) ?_
  refine j_aload_n K 2 dL_law_2020 rfl rfl ?_
  refine j_callV K dL_law_2021 m_X6_thrown v_X6_thrown k_L_139 rfl ⟨by decide, rfl⟩ rfl c_M_thrown rfl rfl (by simp [Value.category]) ⟨(by show _ ≤ 14; decide), (by show _ ≤ 518; decide)⟩ (Nat.zero_le _) (Nat.zero_le _) (fun v9 M9 hq => ?_) (fun E9 M9 hq => absurd hq.1 (fun w => nomatch w))
  obtain ⟨h9, rfl⟩ := hq
  cases h9
  refine j_iload K dL_law_2024 rfl ?_
  refine j_icmp_eq K 2031 dL_law_2026 (by decide) (fun _ => ?_) (fun hne => absurd e0 hne)
  refine j_iload K dL_law_2031 rfl ?_
  refine j_if_ne K 2048 dL_law_2033 (by decide) (fun hk => ?_) (fun hk => ?_)
  · refine j_goto K 2611 dL_law_2048 (by decide) ?_
    exact jW_mono (kk z9 V2 T' _ _ hI b5) (by omega) (by omega)
  · refine j_aload_n K 3 dL_law_2036 rfl rfl ?_
    refine j_iconst K 0 dL_law_2037 rfl ?_
    refine jLald K 0 dL_law_2038 rfl rfl rfl (by decide) ?_
    refine j_iload K dL_law_2039 rfl ?_
    rw [e1 hk]
    refine j_i2l K dL_law_2041 ?_
    refine j_lcmp K dL_law_2042 ?_
    rw [lg_cmp_self]
    refine j_if_eq K 2048 dL_law_2043 (by decide) (fun _ => ?_) (fun hne => absurd rfl hne)
    refine j_goto K 2611 dL_law_2048 (by decide) ?_
    exact jW_mono (kk z9 V2 T' _ _ hI b5) (by omega) (by omega)
set_option maxRecDepth 20000 in
set_option maxHeartbeats 400000 in
theorem law_touchUp (K : jK p l room_1 s m args meth c D ca q0 sa RL cL_law 7 ret) (hN : jNc s) (hX : jX s q0 b L xs) (hi : i + 6 ≤ L) (C : Case l D ca q0 sa ad yL_touchUp cL_touchUp 4 hL_touchUp yX6_touchUp cX6_touchUp 3 (some .int) [.int (xs (i + 1))] T n V) (hkc : 1 ≤ kc) (hks : 6 ≤ ks) (kk : ∀ (z : Nat) (V : jV) (T' : Nat) (o5 o6 : Option Value), Inv T' n V V → T' ≤ T + 60 → jW p l e room_1 s m args below meth c D ca q0 ad 7 Q (kc - 1) (ks - 6) 2611 [some (.ref b), some (.ref (ad 0 0)), some (.ref (ad 20 0)), some (.ref (ad 60 0)), some (.int (nI i)), o5, o6] [] (jS z n V)) : jW p l e room_1 s m args below meth c D ca q0 ad 7 Q kc ks 2051 [some (.ref b), some (.ref (ad 0 0)), some (.ref (ad 20 0)), some (.ref (ad 60 0)), some (.int (nI i)), o5, o6] [] (jS z n V) := by
  obtain ⟨k, r, V1, V2, lx, lm, mc, ms, T', ⟨b1, b2, b3, b4, b5⟩, hx, hm, e0, e1, hI⟩ := C
  refine j_aload_n K 1 dL_law_2051 rfl rfl ?_
  refine j_aload_n K 0 dL_law_2052 rfl rfl ?_
  refine j_iload K dL_law_2053 rfl ?_
  refine j_iconst K 1 dL_law_2055 rfl ?_
  refine j_iadd K dL_law_2056 ?_
  refine j_sald K hX (i + 1) dL_law_2057 (jx_add (a := i) (b := 1) rfl rfl) (by omega) ?_
  refine j_aload_n K 3 dL_law_2058 rfl rfl ?_
  refine j_callSH K hN dL_law_2059 mw_touchUp sw_touchUp k_L_253 (hx z) rfl rfl (by simp [Value.category]) ⟨(by show _ ≤ 14; omega), (by show _ ≤ 518; omega)⟩ (by omega) (by omega) (fun v9 M9 hq => ?_) (fun E9 M9 hq => absurd hq.1 (fun w => nomatch w))
  obtain ⟨h9, hM⟩ := hq
  cases h9
  obtain ⟨z9, q9⟩ := M9
  cases hM
  refine j_istore K dL_law_2062 (by decide) ?_
  refine j_aload_n K 2 dL_law_2064 rfl rfl ?_
  refine j_aload_n K 0 dL_law_2065 rfl rfl ?_
  refine j_iload K dL_law_2066 rfl ?_
  refine j_iconst K 1 dL_law_2068 rfl ?_
  refine j_iadd K dL_law_2069 ?_
  refine j_sald K hX (i + 1) dL_law_2070 (jx_add (a := i) (b := 1) rfl rfl) (by omega) ?_
  refine j_callV K dL_law_2071 m_X6_touchUp v_X6_touchUp k_L_255 rfl ⟨by decide, rfl⟩ rfl (hm z9) rfl rfl (by simp [Value.category]) ⟨(by show _ ≤ 14; omega), (by show _ ≤ 518; omega)⟩ (Nat.zero_le _) (Nat.zero_le _) (fun v9 M9 hq => ?_) (fun E9 M9 hq => absurd hq.1 (fun w => nomatch w))
  obtain ⟨h9, rfl⟩ := hq
  cases h9
  refine j_istore K dL_law_2074 (by decide) ?_
  refine j_aload_n K 2 dL_law_2076 rfl rfl ?_
  refine j_callV K dL_law_2077 m_X6_thrown v_X6_thrown k_L_139 rfl ⟨by decide, rfl⟩ rfl c_M_thrown rfl rfl (by simp [Value.category]) ⟨(by show _ ≤ 14; decide), (by show _ ≤ 518; decide)⟩ (Nat.zero_le _) (Nat.zero_le _) (fun v9 M9 hq => ?_) (fun E9 M9 hq => absurd hq.1 (fun w => nomatch w))
  obtain ⟨h9, rfl⟩ := hq
  cases h9
  refine j_iload K dL_law_2080 rfl ?_
  refine j_icmp_eq K 2087 dL_law_2082 (by decide) (fun _ => ?_) (fun hne => absurd e0 hne)
  refine j_iload K dL_law_2087 rfl ?_
  refine j_if_ne K 2104 dL_law_2089 (by decide) (fun hk => ?_) (fun hk => ?_)
  · refine j_goto K 2611 dL_law_2104 (by decide) ?_
    exact jW_mono (kk z9 V2 T' _ _ hI b5) (by omega) (by omega)
  · refine j_aload_n K 3 dL_law_2092 rfl rfl ?_
    refine j_iconst K 0 dL_law_2093 rfl ?_
    refine jLald K 0 dL_law_2094 rfl rfl rfl (by decide) ?_
    refine j_iload K dL_law_2095 rfl ?_
    rw [e1 hk]
    refine j_i2l K dL_law_2097 ?_
    refine j_lcmp K dL_law_2098 ?_
    rw [lg_cmp_self]
    refine j_if_eq K 2104 dL_law_2099 (by decide) (fun _ => ?_) (fun hne => absurd rfl hne)
    refine j_goto K 2611 dL_law_2104 (by decide) ?_
    exact jW_mono (kk z9 V2 T' _ _ hI b5) (by omega) (by omega)
set_option maxRecDepth 20000 in
set_option maxHeartbeats 400000 in
theorem law_boardDay (K : jK p l room_1 s m args meth c D ca q0 sa RL cL_law 7 ret) (hN : jNc s) (hX : jX s q0 b L xs) (hi : i + 6 ≤ L) (C : Case l D ca q0 sa ad yL_boardDay cL_boardDay 4 hL_boardDay yX6_boardDay cX6_boardDay 2 (some .int) [.int (xs (i + 1))] T n V) (hkc : 1 ≤ kc) (hks : 6 ≤ ks) (kk : ∀ (z : Nat) (V : jV) (T' : Nat) (o5 o6 : Option Value), Inv T' n V V → T' ≤ T + 60 → jW p l e room_1 s m args below meth c D ca q0 ad 7 Q (kc - 1) (ks - 6) 2611 [some (.ref b), some (.ref (ad 0 0)), some (.ref (ad 20 0)), some (.ref (ad 60 0)), some (.int (nI i)), o5, o6] [] (jS z n V)) : jW p l e room_1 s m args below meth c D ca q0 ad 7 Q kc ks 2107 [some (.ref b), some (.ref (ad 0 0)), some (.ref (ad 20 0)), some (.ref (ad 60 0)), some (.int (nI i)), o5, o6] [] (jS z n V) := by
  obtain ⟨k, r, V1, V2, lx, lm, mc, ms, T', ⟨b1, b2, b3, b4, b5⟩, hx, hm, e0, e1, hI⟩ := C
  refine j_aload_n K 1 dL_law_2107 rfl rfl ?_
  refine j_aload_n K 0 dL_law_2108 rfl rfl ?_
  refine j_iload K dL_law_2109 rfl ?_
  refine j_iconst K 1 dL_law_2111 rfl ?_
  refine j_iadd K dL_law_2112 ?_
  refine j_sald K hX (i + 1) dL_law_2113 (jx_add (a := i) (b := 1) rfl rfl) (by omega) ?_
  refine j_aload_n K 3 dL_law_2114 rfl rfl ?_
  refine j_callSH K hN dL_law_2115 mw_boardDay sw_boardDay k_L_256 (hx z) rfl rfl (by simp [Value.category]) ⟨(by show _ ≤ 14; omega), (by show _ ≤ 518; omega)⟩ (by omega) (by omega) (fun v9 M9 hq => ?_) (fun E9 M9 hq => absurd hq.1 (fun w => nomatch w))
  obtain ⟨h9, hM⟩ := hq
  cases h9
  obtain ⟨z9, q9⟩ := M9
  cases hM
  refine j_istore K dL_law_2118 (by decide) ?_
  refine j_aload_n K 2 dL_law_2120 rfl rfl ?_
  refine j_aload_n K 0 dL_law_2121 rfl rfl ?_
  refine j_iload K dL_law_2122 rfl ?_
  refine j_iconst K 1 dL_law_2124 rfl ?_
  refine j_iadd K dL_law_2125 ?_
  refine j_sald K hX (i + 1) dL_law_2126 (jx_add (a := i) (b := 1) rfl rfl) (by omega) ?_
  refine j_callV K dL_law_2127 m_X6_boardDay v_X6_boardDay k_L_258 rfl ⟨by decide, rfl⟩ rfl (hm z9) rfl rfl (by simp [Value.category]) ⟨(by show _ ≤ 14; omega), (by show _ ≤ 518; omega)⟩ (Nat.zero_le _) (Nat.zero_le _) (fun v9 M9 hq => ?_) (fun E9 M9 hq => absurd hq.1 (fun w => nomatch w))
  obtain ⟨h9, rfl⟩ := hq
  cases h9
  refine j_istore K dL_law_2130 (by decide) ?_
  refine j_aload_n K 2 dL_law_2132 rfl rfl ?_
  refine j_callV K dL_law_2133 m_X6_thrown v_X6_thrown k_L_139 rfl ⟨by decide, rfl⟩ rfl c_M_thrown rfl rfl (by simp [Value.category]) ⟨(by show _ ≤ 14; decide), (by show _ ≤ 518; decide)⟩ (Nat.zero_le _) (Nat.zero_le _) (fun v9 M9 hq => ?_) (fun E9 M9 hq => absurd hq.1 (fun w => nomatch w))
  obtain ⟨h9, rfl⟩ := hq
  cases h9
  refine j_iload K dL_law_2136 rfl ?_
  refine j_icmp_eq K 2143 dL_law_2138 (by decide) (fun _ => ?_) (fun hne => absurd e0 hne)
  refine j_iload K dL_law_2143 rfl ?_
  refine j_if_ne K 2160 dL_law_2145 (by decide) (fun hk => ?_) (fun hk => ?_)
  · refine j_goto K 2611 dL_law_2160 (by decide) ?_
    exact jW_mono (kk z9 V2 T' _ _ hI b5) (by omega) (by omega)
  · refine j_aload_n K 3 dL_law_2148 rfl rfl ?_
    refine j_iconst K 0 dL_law_2149 rfl ?_
    refine jLald K 0 dL_law_2150 rfl rfl rfl (by decide) ?_
    refine j_iload K dL_law_2151 rfl ?_
    rw [e1 hk]
    refine j_i2l K dL_law_2153 ?_
    refine j_lcmp K dL_law_2154 ?_
    rw [lg_cmp_self]
    refine j_if_eq K 2160 dL_law_2155 (by decide) (fun _ => ?_) (fun hne => absurd rfl hne)
    refine j_goto K 2611 dL_law_2160 (by decide) ?_
    exact jW_mono (kk z9 V2 T' _ _ hI b5) (by omega) (by omega)
set_option maxRecDepth 20000 in
set_option maxHeartbeats 400000 in
theorem law_lineCount (K : jK p l room_1 s m args meth c D ca q0 sa RL cL_law 7 ret) (hN : jNc s) (hX : jX s q0 b L xs) (hi : i + 6 ≤ L) (C : Case l D ca q0 sa ad yL_lineCount cL_lineCount 4 hL_lineCount yX6_lineCount cX6_lineCount 2 (some .int) [.int (xs (i + 1))] T n V) (hkc : 1 ≤ kc) (hks : 6 ≤ ks) (kk : ∀ (z : Nat) (V : jV) (T' : Nat) (o5 o6 : Option Value), Inv T' n V V → T' ≤ T + 60 → jW p l e room_1 s m args below meth c D ca q0 ad 7 Q (kc - 1) (ks - 6) 2611 [some (.ref b), some (.ref (ad 0 0)), some (.ref (ad 20 0)), some (.ref (ad 60 0)), some (.int (nI i)), o5, o6] [] (jS z n V)) : jW p l e room_1 s m args below meth c D ca q0 ad 7 Q kc ks 2163 [some (.ref b), some (.ref (ad 0 0)), some (.ref (ad 20 0)), some (.ref (ad 60 0)), some (.int (nI i)), o5, o6] [] (jS z n V) := by
  obtain ⟨k, r, V1, V2, lx, lm, mc, ms, T', ⟨b1, b2, b3, b4, b5⟩, hx, hm, e0, e1, hI⟩ := C
  refine j_aload_n K 1 dL_law_2163 rfl rfl ?_
  refine j_aload_n K 0 dL_law_2164 rfl rfl ?_
  refine j_iload K dL_law_2165 rfl ?_
  refine j_iconst K 1 dL_law_2167 rfl ?_
  refine j_iadd K dL_law_2168 ?_
  refine j_sald K hX (i + 1) dL_law_2169 (jx_add (a := i) (b := 1) rfl rfl) (by omega) ?_
  refine j_aload_n K 3 dL_law_2170 rfl rfl ?_
  refine j_callSH K hN dL_law_2171 mw_lineCount sw_lineCount k_L_259 (hx z) rfl rfl (by simp [Value.category]) ⟨(by show _ ≤ 14; omega), (by show _ ≤ 518; omega)⟩ (by omega) (by omega) (fun v9 M9 hq => ?_) (fun E9 M9 hq => absurd hq.1 (fun w => nomatch w))
  obtain ⟨h9, hM⟩ := hq
  cases h9
  obtain ⟨z9, q9⟩ := M9
  cases hM
  refine j_istore K dL_law_2174 (by decide) ?_
  refine j_aload_n K 2 dL_law_2176 rfl rfl ?_
  refine j_aload_n K 0 dL_law_2177 rfl rfl ?_
  refine j_iload K dL_law_2178 rfl ?_
  refine j_iconst K 1 dL_law_2180 rfl ?_
  refine j_iadd K dL_law_2181 ?_
  refine j_sald K hX (i + 1) dL_law_2182 (jx_add (a := i) (b := 1) rfl rfl) (by omega) ?_
  refine j_callV K dL_law_2183 m_X6_lineCount v_X6_lineCount k_L_261 rfl ⟨by decide, rfl⟩ rfl (hm z9) rfl rfl (by simp [Value.category]) ⟨(by show _ ≤ 14; omega), (by show _ ≤ 518; omega)⟩ (Nat.zero_le _) (Nat.zero_le _) (fun v9 M9 hq => ?_) (fun E9 M9 hq => absurd hq.1 (fun w => nomatch w))
  obtain ⟨h9, rfl⟩ := hq
  cases h9
  refine j_istore K dL_law_2186 (by decide) ?_
  refine j_aload_n K 2 dL_law_2188 rfl rfl ?_
  refine j_callV K dL_law_2189 m_X6_thrown v_X6_thrown k_L_139 rfl ⟨by decide, rfl⟩ rfl c_M_thrown rfl rfl (by simp [Value.category]) ⟨(by show _ ≤ 14; decide), (by show _ ≤ 518; decide)⟩ (Nat.zero_le _) (Nat.zero_le _) (fun v9 M9 hq => ?_) (fun E9 M9 hq => absurd hq.1 (fun w => nomatch w))
  obtain ⟨h9, rfl⟩ := hq
  cases h9
  refine j_iload K dL_law_2192 rfl ?_
  refine j_icmp_eq K 2199 dL_law_2194 (by decide) (fun _ => ?_) (fun hne => absurd e0 hne)
  refine j_iload K dL_law_2199 rfl ?_
  refine j_if_ne K 2216 dL_law_2201 (by decide) (fun hk => ?_) (fun hk => ?_)
  · refine j_goto K 2611 dL_law_2216 (by decide) ?_
    exact jW_mono (kk z9 V2 T' _ _ hI b5) (by omega) (by omega)
  · refine j_aload_n K 3 dL_law_2204 rfl rfl ?_
    refine j_iconst K 0 dL_law_2205 rfl ?_
    refine jLald K 0 dL_law_2206 rfl rfl rfl (by decide) ?_
    refine j_iload K dL_law_2207 rfl ?_
    rw [e1 hk]
    refine j_i2l K dL_law_2209 ?_
    refine j_lcmp K dL_law_2210 ?_
    rw [lg_cmp_self]
    refine j_if_eq K 2216 dL_law_2211 (by decide) (fun _ => ?_) (fun hne => absurd rfl hne)
    refine j_goto K 2611 dL_law_2216 (by decide) ?_
    exact jW_mono (kk z9 V2 T' _ _ hI b5) (by omega) (by omega)
set_option maxRecDepth 20000 in
set_option maxHeartbeats 400000 in
theorem law_lineState (K : jK p l room_1 s m args meth c D ca q0 sa RL cL_law 7 ret) (hN : jNc s) (hX : jX s q0 b L xs) (hi : i + 6 ≤ L) (C : Case l D ca q0 sa ad yL_lineState cL_lineState 5 hL_lineState yX6_lineState cX6_lineState 3 (some .int) [.int (xs (i + 1)), .int (xs (i + 2))] T n V) (hkc : 1 ≤ kc) (hks : 6 ≤ ks) (kk : ∀ (z : Nat) (V : jV) (T' : Nat) (o5 o6 : Option Value), Inv T' n V V → T' ≤ T + 60 → jW p l e room_1 s m args below meth c D ca q0 ad 7 Q (kc - 1) (ks - 6) 2611 [some (.ref b), some (.ref (ad 0 0)), some (.ref (ad 20 0)), some (.ref (ad 60 0)), some (.int (nI i)), o5, o6] [] (jS z n V)) : jW p l e room_1 s m args below meth c D ca q0 ad 7 Q kc ks 2219 [some (.ref b), some (.ref (ad 0 0)), some (.ref (ad 20 0)), some (.ref (ad 60 0)), some (.int (nI i)), o5, o6] [] (jS z n V) := by
  obtain ⟨k, r, V1, V2, lx, lm, mc, ms, T', ⟨b1, b2, b3, b4, b5⟩, hx, hm, e0, e1, hI⟩ := C
  refine j_aload_n K 1 dL_law_2219 rfl rfl ?_
  refine j_aload_n K 0 dL_law_2220 rfl rfl ?_
  refine j_iload K dL_law_2221 rfl ?_
  refine j_iconst K 1 dL_law_2223 rfl ?_
  refine j_iadd K dL_law_2224 ?_
  refine j_sald K hX (i + 1) dL_law_2225 (jx_add (a := i) (b := 1) rfl rfl) (by omega) ?_
  refine j_aload_n K 0 dL_law_2226 rfl rfl ?_
  refine j_iload K dL_law_2227 rfl ?_
  refine j_iconst K 2 dL_law_2229 rfl ?_
  refine j_iadd K dL_law_2230 ?_
  refine j_sald K hX (i + 2) dL_law_2231 (jx_add (a := i) (b := 2) rfl rfl) (by omega) ?_
  refine j_aload_n K 3 dL_law_2232 rfl rfl ?_
  refine j_callSH K hN dL_law_2233 mw_lineState sw_lineState k_L_262 (hx z) rfl rfl (by simp [Value.category]) ⟨(by show _ ≤ 14; omega), (by show _ ≤ 518; omega)⟩ (by omega) (by omega) (fun v9 M9 hq => ?_) (fun E9 M9 hq => absurd hq.1 (fun w => nomatch w))
  obtain ⟨h9, hM⟩ := hq
  cases h9
  obtain ⟨z9, q9⟩ := M9
  cases hM
  refine j_istore K dL_law_2236 (by decide) ?_
  refine j_aload_n K 2 dL_law_2238 rfl rfl ?_
  refine j_aload_n K 0 dL_law_2239 rfl rfl ?_
  refine j_iload K dL_law_2240 rfl ?_
  refine j_iconst K 1 dL_law_2242 rfl ?_
  refine j_iadd K dL_law_2243 ?_
  refine j_sald K hX (i + 1) dL_law_2244 (jx_add (a := i) (b := 1) rfl rfl) (by omega) ?_
  refine j_aload_n K 0 dL_law_2245 rfl rfl ?_
  refine j_iload K dL_law_2246 rfl ?_
  refine j_iconst K 2 dL_law_2248 rfl ?_
  refine j_iadd K dL_law_2249 ?_
  refine j_sald K hX (i + 2) dL_law_2250 (jx_add (a := i) (b := 2) rfl rfl) (by omega) ?_
  refine j_callV K dL_law_2251 m_X6_lineState v_X6_lineState k_L_264 rfl ⟨by decide, rfl⟩ rfl (hm z9) rfl rfl (by simp [Value.category]) ⟨(by show _ ≤ 14; omega), (by show _ ≤ 518; omega)⟩ (Nat.zero_le _) (Nat.zero_le _) (fun v9 M9 hq => ?_) (fun E9 M9 hq => absurd hq.1 (fun w => nomatch w))
  obtain ⟨h9, rfl⟩ := hq
  cases h9
  refine j_istore K dL_law_2254 (by decide) ?_
  refine j_aload_n K 2 dL_law_2256 rfl rfl ?_
  refine j_callV K dL_law_2257 m_X6_thrown v_X6_thrown k_L_139 rfl ⟨by decide, rfl⟩ rfl c_M_thrown rfl rfl (by simp [Value.category]) ⟨(by show _ ≤ 14; decide), (by show _ ≤ 518; decide)⟩ (Nat.zero_le _) (Nat.zero_le _) (fun v9 M9 hq => ?_) (fun E9 M9 hq => absurd hq.1 (fun w => nomatch w))
  obtain ⟨h9, rfl⟩ := hq
  cases h9
  refine j_iload K dL_law_2260 rfl ?_
  refine j_icmp_eq K 2267 dL_law_2262 (by decide) (fun _ => ?_) (fun hne => absurd e0 hne)
  refine j_iload K dL_law_2267 rfl ?_
  refine j_if_ne K 2284 dL_law_2269 (by decide) (fun hk => ?_) (fun hk => ?_)
  · refine j_goto K 2611 dL_law_2284 (by decide) ?_
    exact jW_mono (kk z9 V2 T' _ _ hI b5) (by omega) (by omega)
  · refine j_aload_n K 3 dL_law_2272 rfl rfl ?_
    refine j_iconst K 0 dL_law_2273 rfl ?_
    refine jLald K 0 dL_law_2274 rfl rfl rfl (by decide) ?_
    refine j_iload K dL_law_2275 rfl ?_
    rw [e1 hk]
    refine j_i2l K dL_law_2277 ?_
    refine j_lcmp K dL_law_2278 ?_
    rw [lg_cmp_self]
    refine j_if_eq K 2284 dL_law_2279 (by decide) (fun _ => ?_) (fun hne => absurd rfl hne)
    refine j_goto K 2611 dL_law_2284 (by decide) ?_
    exact jW_mono (kk z9 V2 T' _ _ hI b5) (by omega) (by omega)
set_option maxRecDepth 20000 in
set_option maxHeartbeats 400000 in
theorem law_lineMinute (K : jK p l room_1 s m args meth c D ca q0 sa RL cL_law 7 ret) (hN : jNc s) (hX : jX s q0 b L xs) (hi : i + 6 ≤ L) (C : Case l D ca q0 sa ad yL_lineMinute cL_lineMinute 5 hL_lineMinute yX6_lineMinute cX6_lineMinute 3 (some .int) [.int (xs (i + 1)), .int (xs (i + 2))] T n V) (hkc : 1 ≤ kc) (hks : 6 ≤ ks) (kk : ∀ (z : Nat) (V : jV) (T' : Nat) (o5 o6 : Option Value), Inv T' n V V → T' ≤ T + 60 → jW p l e room_1 s m args below meth c D ca q0 ad 7 Q (kc - 1) (ks - 6) 2611 [some (.ref b), some (.ref (ad 0 0)), some (.ref (ad 20 0)), some (.ref (ad 60 0)), some (.int (nI i)), o5, o6] [] (jS z n V)) : jW p l e room_1 s m args below meth c D ca q0 ad 7 Q kc ks 2287 [some (.ref b), some (.ref (ad 0 0)), some (.ref (ad 20 0)), some (.ref (ad 60 0)), some (.int (nI i)), o5, o6] [] (jS z n V) := by
  obtain ⟨k, r, V1, V2, lx, lm, mc, ms, T', ⟨b1, b2, b3, b4, b5⟩, hx, hm, e0, e1, hI⟩ := C
  refine j_aload_n K 1 dL_law_2287 rfl rfl ?_
  refine j_aload_n K 0 dL_law_2288 rfl rfl ?_
  refine j_iload K dL_law_2289 rfl ?_
  refine j_iconst K 1 dL_law_2291 rfl ?_
  refine j_iadd K dL_law_2292 ?_
  refine j_sald K hX (i + 1) dL_law_2293 (jx_add (a := i) (b := 1) rfl rfl) (by omega) ?_
  refine j_aload_n K 0 dL_law_2294 rfl rfl ?_
  refine j_iload K dL_law_2295 rfl ?_
  refine j_iconst K 2 dL_law_2297 rfl ?_
  refine j_iadd K dL_law_2298 ?_
  refine j_sald K hX (i + 2) dL_law_2299 (jx_add (a := i) (b := 2) rfl rfl) (by omega) ?_
  refine j_aload_n K 3 dL_law_2300 rfl rfl ?_
  refine j_callSH K hN dL_law_2301 mw_lineMinute sw_lineMinute k_L_265 (hx z) rfl rfl (by simp [Value.category]) ⟨(by show _ ≤ 14; omega), (by show _ ≤ 518; omega)⟩ (by omega) (by omega) (fun v9 M9 hq => ?_) (fun E9 M9 hq => absurd hq.1 (fun w => nomatch w))
  obtain ⟨h9, hM⟩ := hq
  cases h9
  obtain ⟨z9, q9⟩ := M9
  cases hM
  refine j_istore K dL_law_2304 (by decide) ?_
  refine j_aload_n K 2 dL_law_2306 rfl rfl ?_
  refine j_aload_n K 0 dL_law_2307 rfl rfl ?_
  refine j_iload K dL_law_2308 rfl ?_
  refine j_iconst K 1 dL_law_2310 rfl ?_
  refine j_iadd K dL_law_2311 ?_
  refine j_sald K hX (i + 1) dL_law_2312 (jx_add (a := i) (b := 1) rfl rfl) (by omega) ?_
  refine j_aload_n K 0 dL_law_2313 rfl rfl ?_
  refine j_iload K dL_law_2314 rfl ?_
  refine j_iconst K 2 dL_law_2316 rfl ?_
  refine j_iadd K dL_law_2317 ?_
  refine j_sald K hX (i + 2) dL_law_2318 (jx_add (a := i) (b := 2) rfl rfl) (by omega) ?_
  refine j_callV K dL_law_2319 m_X6_lineMinute v_X6_lineMinute k_L_267 rfl ⟨by decide, rfl⟩ rfl (hm z9) rfl rfl (by simp [Value.category]) ⟨(by show _ ≤ 14; omega), (by show _ ≤ 518; omega)⟩ (Nat.zero_le _) (Nat.zero_le _) (fun v9 M9 hq => ?_) (fun E9 M9 hq => absurd hq.1 (fun w => nomatch w))
  obtain ⟨h9, rfl⟩ := hq
  cases h9
  refine j_istore K dL_law_2322 (by decide) ?_
  refine j_aload_n K 2 dL_law_2324 rfl rfl ?_
  refine j_callV K dL_law_2325 m_X6_thrown v_X6_thrown k_L_139 rfl ⟨by decide, rfl⟩ rfl c_M_thrown rfl rfl (by simp [Value.category]) ⟨(by show _ ≤ 14; decide), (by show _ ≤ 518; decide)⟩ (Nat.zero_le _) (Nat.zero_le _) (fun v9 M9 hq => ?_) (fun E9 M9 hq => absurd hq.1 (fun w => nomatch w))
  obtain ⟨h9, rfl⟩ := hq
  cases h9
  refine j_iload K dL_law_2328 rfl ?_
  refine j_icmp_eq K 2335 dL_law_2330 (by decide) (fun _ => ?_) (fun hne => absurd e0 hne)
  refine j_iload K dL_law_2335 rfl ?_
  refine j_if_ne K 2352 dL_law_2337 (by decide) (fun hk => ?_) (fun hk => ?_)
  · refine j_goto K 2611 dL_law_2352 (by decide) ?_
    exact jW_mono (kk z9 V2 T' _ _ hI b5) (by omega) (by omega)
  · refine j_aload_n K 3 dL_law_2340 rfl rfl ?_
    refine j_iconst K 0 dL_law_2341 rfl ?_
    refine jLald K 0 dL_law_2342 rfl rfl rfl (by decide) ?_
    refine j_iload K dL_law_2343 rfl ?_
    rw [e1 hk]
    refine j_i2l K dL_law_2345 ?_
    refine j_lcmp K dL_law_2346 ?_
    rw [lg_cmp_self]
    refine j_if_eq K 2352 dL_law_2347 (by decide) (fun _ => ?_) (fun hne => absurd rfl hne)
    refine j_goto K 2611 dL_law_2352 (by decide) ?_
    exact jW_mono (kk z9 V2 T' _ _ hI b5) (by omega) (by omega)
set_option maxRecDepth 20000 in
set_option maxHeartbeats 400000 in
theorem law_lineHeight (K : jK p l room_1 s m args meth c D ca q0 sa RL cL_law 7 ret) (hN : jNc s) (hX : jX s q0 b L xs) (hi : i + 6 ≤ L) (C : Case l D ca q0 sa ad yL_lineHeight cL_lineHeight 5 hL_lineHeight yX6_lineHeight cX6_lineHeight 3 (some .int) [.int (xs (i + 1)), .int (xs (i + 2))] T n V) (hkc : 1 ≤ kc) (hks : 6 ≤ ks) (kk : ∀ (z : Nat) (V : jV) (T' : Nat) (o5 o6 : Option Value), Inv T' n V V → T' ≤ T + 60 → jW p l e room_1 s m args below meth c D ca q0 ad 7 Q (kc - 1) (ks - 6) 2611 [some (.ref b), some (.ref (ad 0 0)), some (.ref (ad 20 0)), some (.ref (ad 60 0)), some (.int (nI i)), o5, o6] [] (jS z n V)) : jW p l e room_1 s m args below meth c D ca q0 ad 7 Q kc ks 2355 [some (.ref b), some (.ref (ad 0 0)), some (.ref (ad 20 0)), some (.ref (ad 60 0)), some (.int (nI i)), o5, o6] [] (jS z n V) := by
  obtain ⟨k, r, V1, V2, lx, lm, mc, ms, T', ⟨b1, b2, b3, b4, b5⟩, hx, hm, e0, e1, hI⟩ := C
  refine j_aload_n K 1 dL_law_2355 rfl rfl ?_
  refine j_aload_n K 0 dL_law_2356 rfl rfl ?_
  refine j_iload K dL_law_2357 rfl ?_
  refine j_iconst K 1 dL_law_2359 rfl ?_
  refine j_iadd K dL_law_2360 ?_
  refine j_sald K hX (i + 1) dL_law_2361 (jx_add (a := i) (b := 1) rfl rfl) (by omega) ?_
  refine j_aload_n K 0 dL_law_2362 rfl rfl ?_
  refine j_iload K dL_law_2363 rfl ?_
  refine j_iconst K 2 dL_law_2365 rfl ?_
  refine j_iadd K dL_law_2366 ?_
  refine j_sald K hX (i + 2) dL_law_2367 (jx_add (a := i) (b := 2) rfl rfl) (by omega) ?_
  refine j_aload_n K 3 dL_law_2368 rfl rfl ?_
  refine j_callSH K hN dL_law_2369 mw_lineHeight sw_lineHeight k_L_268 (hx z) rfl rfl (by simp [Value.category]) ⟨(by show _ ≤ 14; omega), (by show _ ≤ 518; omega)⟩ (by omega) (by omega) (fun v9 M9 hq => ?_) (fun E9 M9 hq => absurd hq.1 (fun w => nomatch w))
  obtain ⟨h9, hM⟩ := hq
  cases h9
  obtain ⟨z9, q9⟩ := M9
  cases hM
  refine j_istore K dL_law_2372 (by decide) ?_
  refine j_aload_n K 2 dL_law_2374 rfl rfl ?_
  refine j_aload_n K 0 dL_law_2375 rfl rfl ?_
  refine j_iload K dL_law_2376 rfl ?_
  refine j_iconst K 1 dL_law_2378 rfl ?_
  refine j_iadd K dL_law_2379 ?_
  refine j_sald K hX (i + 1) dL_law_2380 (jx_add (a := i) (b := 1) rfl rfl) (by omega) ?_
  refine j_aload_n K 0 dL_law_2381 rfl rfl ?_
  refine j_iload K dL_law_2382 rfl ?_
  refine j_iconst K 2 dL_law_2384 rfl ?_
  refine j_iadd K dL_law_2385 ?_
  refine j_sald K hX (i + 2) dL_law_2386 (jx_add (a := i) (b := 2) rfl rfl) (by omega) ?_
  refine j_callV K dL_law_2387 m_X6_lineHeight v_X6_lineHeight k_L_270 rfl ⟨by decide, rfl⟩ rfl (hm z9) rfl rfl (by simp [Value.category]) ⟨(by show _ ≤ 14; omega), (by show _ ≤ 518; omega)⟩ (Nat.zero_le _) (Nat.zero_le _) (fun v9 M9 hq => ?_) (fun E9 M9 hq => absurd hq.1 (fun w => nomatch w))
  obtain ⟨h9, rfl⟩ := hq
  cases h9
  refine j_istore K dL_law_2390 (by decide) ?_
  refine j_aload_n K 2 dL_law_2392 rfl rfl ?_
  refine j_callV K dL_law_2393 m_X6_thrown v_X6_thrown k_L_139 rfl ⟨by decide, rfl⟩ rfl c_M_thrown rfl rfl (by simp [Value.category]) ⟨(by show _ ≤ 14; decide), (by show _ ≤ 518; decide)⟩ (Nat.zero_le _) (Nat.zero_le _) (fun v9 M9 hq => ?_) (fun E9 M9 hq => absurd hq.1 (fun w => nomatch w))
  obtain ⟨h9, rfl⟩ := hq
  cases h9
  refine j_iload K dL_law_2396 rfl ?_
  refine j_icmp_eq K 2403 dL_law_2398 (by decide) (fun _ => ?_) (fun hne => absurd e0 hne)
  refine j_iload K dL_law_2403 rfl ?_
  refine j_if_ne K 2420 dL_law_2405 (by decide) (fun hk => ?_) (fun hk => ?_)
  · refine j_goto K 2611 dL_law_2420 (by decide) ?_
    exact jW_mono (kk z9 V2 T' _ _ hI b5) (by omega) (by omega)
  · refine j_aload_n K 3 dL_law_2408 rfl rfl ?_
    refine j_iconst K 0 dL_law_2409 rfl ?_
    refine jLald K 0 dL_law_2410 rfl rfl rfl (by decide) ?_
    refine j_iload K dL_law_2411 rfl ?_
    rw [e1 hk]
    refine j_i2l K dL_law_2413 ?_
    refine j_lcmp K dL_law_2414 ?_
    rw [lg_cmp_self]
    refine j_if_eq K 2420 dL_law_2415 (by decide) (fun _ => ?_) (fun hne => absurd rfl hne)
    refine j_goto K 2611 dL_law_2420 (by decide) ?_
    exact jW_mono (kk z9 V2 T' _ _ hI b5) (by omega) (by omega)
set_option maxRecDepth 20000 in
set_option maxHeartbeats 400000 in
theorem law_dripsOf (K : jK p l room_1 s m args meth c D ca q0 sa RL cL_law 7 ret) (hN : jNc s) (hX : jX s q0 b L xs) (hi : i + 6 ≤ L) (C : Case l D ca q0 sa ad yL_dripsOf cL_dripsOf 4 hL_dripsOf yX6_dripsOf cX6_dripsOf 2 (some .int) [.int (xs (i + 1))] T n V) (hkc : 1 ≤ kc) (hks : 6 ≤ ks) (kk : ∀ (z : Nat) (V : jV) (T' : Nat) (o5 o6 : Option Value), Inv T' n V V → T' ≤ T + 60 → jW p l e room_1 s m args below meth c D ca q0 ad 7 Q (kc - 1) (ks - 6) 2611 [some (.ref b), some (.ref (ad 0 0)), some (.ref (ad 20 0)), some (.ref (ad 60 0)), some (.int (nI i)), o5, o6] [] (jS z n V)) : jW p l e room_1 s m args below meth c D ca q0 ad 7 Q kc ks 2423 [some (.ref b), some (.ref (ad 0 0)), some (.ref (ad 20 0)), some (.ref (ad 60 0)), some (.int (nI i)), o5, o6] [] (jS z n V) := by
  obtain ⟨k, r, V1, V2, lx, lm, mc, ms, T', ⟨b1, b2, b3, b4, b5⟩, hx, hm, e0, e1, hI⟩ := C
  refine j_aload_n K 1 dL_law_2423 rfl rfl ?_
  refine j_aload_n K 0 dL_law_2424 rfl rfl ?_
  refine j_iload K dL_law_2425 rfl ?_
  refine j_iconst K 1 dL_law_2427 rfl ?_
  refine j_iadd K dL_law_2428 ?_
  refine j_sald K hX (i + 1) dL_law_2429 (jx_add (a := i) (b := 1) rfl rfl) (by omega) ?_
  refine j_aload_n K 3 dL_law_2430 rfl rfl ?_
  refine j_callSH K hN dL_law_2431 mw_dripsOf sw_dripsOf k_L_271 (hx z) rfl rfl (by simp [Value.category]) ⟨(by show _ ≤ 14; omega), (by show _ ≤ 518; omega)⟩ (by omega) (by omega) (fun v9 M9 hq => ?_) (fun E9 M9 hq => absurd hq.1 (fun w => nomatch w))
  obtain ⟨h9, hM⟩ := hq
  cases h9
  obtain ⟨z9, q9⟩ := M9
  cases hM
  refine j_istore K dL_law_2434 (by decide) ?_
  refine j_aload_n K 2 dL_law_2436 rfl rfl ?_
  refine j_aload_n K 0 dL_law_2437 rfl rfl ?_
  refine j_iload K dL_law_2438 rfl ?_
  refine j_iconst K 1 dL_law_2440 rfl ?_
  refine j_iadd K dL_law_2441 ?_
  refine j_sald K hX (i + 1) dL_law_2442 (jx_add (a := i) (b := 1) rfl rfl) (by omega) ?_
  refine j_callV K dL_law_2443 m_X6_dripsOf v_X6_dripsOf k_L_273 rfl ⟨by decide, rfl⟩ rfl (hm z9) rfl rfl (by simp [Value.category]) ⟨(by show _ ≤ 14; omega), (by show _ ≤ 518; omega)⟩ (Nat.zero_le _) (Nat.zero_le _) (fun v9 M9 hq => ?_) (fun E9 M9 hq => absurd hq.1 (fun w => nomatch w))
  obtain ⟨h9, rfl⟩ := hq
  cases h9
  refine j_istore K dL_law_2446 (by decide) ?_
  refine j_aload_n K 2 dL_law_2448 rfl rfl ?_
  refine j_callV K dL_law_2449 m_X6_thrown v_X6_thrown k_L_139 rfl ⟨by decide, rfl⟩ rfl c_M_thrown rfl rfl (by simp [Value.category]) ⟨(by show _ ≤ 14; decide), (by show _ ≤ 518; decide)⟩ (Nat.zero_le _) (Nat.zero_le _) (fun v9 M9 hq => ?_) (fun E9 M9 hq => absurd hq.1 (fun w => nomatch w))
  obtain ⟨h9, rfl⟩ := hq
  cases h9
  refine j_iload K dL_law_2452 rfl ?_
  refine j_icmp_eq K 2459 dL_law_2454 (by decide) (fun _ => ?_) (fun hne => absurd e0 hne)
  refine j_iload K dL_law_2459 rfl ?_
  refine j_if_ne K 2476 dL_law_2461 (by decide) (fun hk => ?_) (fun hk => ?_)
  · refine j_goto K 2611 dL_law_2476 (by decide) ?_
    exact jW_mono (kk z9 V2 T' _ _ hI b5) (by omega) (by omega)
  · refine j_aload_n K 3 dL_law_2464 rfl rfl ?_
    refine j_iconst K 0 dL_law_2465 rfl ?_
    refine jLald K 0 dL_law_2466 rfl rfl rfl (by decide) ?_
    refine j_iload K dL_law_2467 rfl ?_
    rw [e1 hk]
    refine j_i2l K dL_law_2469 ?_
    refine j_lcmp K dL_law_2470 ?_
    rw [lg_cmp_self]
    refine j_if_eq K 2476 dL_law_2471 (by decide) (fun _ => ?_) (fun hne => absurd rfl hne)
    refine j_goto K 2611 dL_law_2476 (by decide) ?_
    exact jW_mono (kk z9 V2 T' _ _ hI b5) (by omega) (by omega)
set_option maxRecDepth 20000 in
set_option maxHeartbeats 400000 in
theorem law_unreadableLines (K : jK p l room_1 s m args meth c D ca q0 sa RL cL_law 7 ret) (hN : jNc s) (hX : jX s q0 b L xs) (hi : i + 6 ≤ L) (C : Case l D ca q0 sa ad yL_unreadableLines cL_unreadableLines 4 hL_unreadableLines yX6_unreadableLines cX6_unreadableLines 2 (some .int) [.int (xs (i + 1))] T n V) (hkc : 1 ≤ kc) (hks : 6 ≤ ks) (kk : ∀ (z : Nat) (V : jV) (T' : Nat) (o5 o6 : Option Value), Inv T' n V V → T' ≤ T + 60 → jW p l e room_1 s m args below meth c D ca q0 ad 7 Q (kc - 1) (ks - 6) 2611 [some (.ref b), some (.ref (ad 0 0)), some (.ref (ad 20 0)), some (.ref (ad 60 0)), some (.int (nI i)), o5, o6] [] (jS z n V)) : jW p l e room_1 s m args below meth c D ca q0 ad 7 Q kc ks 2479 [some (.ref b), some (.ref (ad 0 0)), some (.ref (ad 20 0)), some (.ref (ad 60 0)), some (.int (nI i)), o5, o6] [] (jS z n V) := by
  obtain ⟨k, r, V1, V2, lx, lm, mc, ms, T', ⟨b1, b2, b3, b4, b5⟩, hx, hm, e0, e1, hI⟩ := C
  refine j_aload_n K 1 dL_law_2479 rfl rfl ?_
  refine j_aload_n K 0 dL_law_2480 rfl rfl ?_
  refine j_iload K dL_law_2481 rfl ?_
  refine j_iconst K 1 dL_law_2483 rfl ?_
  refine j_iadd K dL_law_2484 ?_
  refine j_sald K hX (i + 1) dL_law_2485 (jx_add (a := i) (b := 1) rfl rfl) (by omega) ?_
  refine j_aload_n K 3 dL_law_2486 rfl rfl ?_
  refine j_callSH K hN dL_law_2487 mw_unreadableLines sw_unreadableLines k_L_274 (hx z) rfl rfl (by simp [Value.category]) ⟨(by show _ ≤ 14; omega), (by show _ ≤ 518; omega)⟩ (by omega) (by omega) (fun v9 M9 hq => ?_) (fun E9 M9 hq => absurd hq.1 (fun w => nomatch w))
  obtain ⟨h9, hM⟩ := hq
  cases h9
  obtain ⟨z9, q9⟩ := M9
  cases hM
  refine j_istore K dL_law_2490 (by decide) ?_
  refine j_aload_n K 2 dL_law_2492 rfl rfl ?_
  refine j_aload_n K 0 dL_law_2493 rfl rfl ?_
  refine j_iload K dL_law_2494 rfl ?_
  refine j_iconst K 1 dL_law_2496 rfl ?_
  refine j_iadd K dL_law_2497 ?_
  refine j_sald K hX (i + 1) dL_law_2498 (jx_add (a := i) (b := 1) rfl rfl) (by omega) ?_
  refine j_callV K dL_law_2499 m_X6_unreadableLines v_X6_unreadableLines k_L_276 rfl ⟨by decide, rfl⟩ rfl (hm z9) rfl rfl (by simp [Value.category]) ⟨(by show _ ≤ 14; omega), (by show _ ≤ 518; omega)⟩ (Nat.zero_le _) (Nat.zero_le _) (fun v9 M9 hq => ?_) (fun E9 M9 hq => absurd hq.1 (fun w => nomatch w))
  obtain ⟨h9, rfl⟩ := hq
  cases h9
  refine j_istore K dL_law_2502 (by decide) ?_
  refine j_aload_n K 2 dL_law_2504 rfl rfl ?_
  refine j_callV K dL_law_2505 m_X6_thrown v_X6_thrown k_L_139 rfl ⟨by decide, rfl⟩ rfl c_M_thrown rfl rfl (by simp [Value.category]) ⟨(by show _ ≤ 14; decide), (by show _ ≤ 518; decide)⟩ (Nat.zero_le _) (Nat.zero_le _) (fun v9 M9 hq => ?_) (fun E9 M9 hq => absurd hq.1 (fun w => nomatch w))
  obtain ⟨h9, rfl⟩ := hq
  cases h9
  refine j_iload K dL_law_2508 rfl ?_
  refine j_icmp_eq K 2515 dL_law_2510 (by decide) (fun _ => ?_) (fun hne => absurd e0 hne)
  refine j_iload K dL_law_2515 rfl ?_
  refine j_if_ne K 2532 dL_law_2517 (by decide) (fun hk => ?_) (fun hk => ?_)
  · refine j_goto K 2611 dL_law_2532 (by decide) ?_
    exact jW_mono (kk z9 V2 T' _ _ hI b5) (by omega) (by omega)
  · refine j_aload_n K 3 dL_law_2520 rfl rfl ?_
    refine j_iconst K 0 dL_law_2521 rfl ?_
    refine jLald K 0 dL_law_2522 rfl rfl rfl (by decide) ?_
    refine j_iload K dL_law_2523 rfl ?_
    rw [e1 hk]
    refine j_i2l K dL_law_2525 ?_
    refine j_lcmp K dL_law_2526 ?_
    rw [lg_cmp_self]
    refine j_if_eq K 2532 dL_law_2527 (by decide) (fun _ => ?_) (fun hne => absurd rfl hne)
    refine j_goto K 2611 dL_law_2532 (by decide) ?_
    exact jW_mono (kk z9 V2 T' _ _ hI b5) (by omega) (by omega)
set_option maxRecDepth 20000 in
set_option maxHeartbeats 400000 in
theorem law_isRight (K : jK p l room_1 s m args meth c D ca q0 sa RL cL_law 7 ret) (hN : jNc s) (hX : jX s q0 b L xs) (hi : i + 6 ≤ L) (C : CaseB l D ca q0 sa ad yL_isRight cL_isRight 4 hL_isRight yX6_isRight cX6_isRight 2 (some .boolean) [.int (xs (i + 1))] T n V) (hkc : 1 ≤ kc) (hks : 6 ≤ ks) (kk : ∀ (z : Nat) (V : jV) (T' : Nat) (o5 o6 : Option Value), Inv T' n V V → T' ≤ T + 60 → jW p l e room_1 s m args below meth c D ca q0 ad 7 Q (kc - 1) (ks - 6) 2611 [some (.ref b), some (.ref (ad 0 0)), some (.ref (ad 20 0)), some (.ref (ad 60 0)), some (.int (nI i)), o5, o6] [] (jS z n V)) : jW p l e room_1 s m args below meth c D ca q0 ad 7 Q kc ks 2535 [some (.ref b), some (.ref (ad 0 0)), some (.ref (ad 20 0)), some (.ref (ad 60 0)), some (.int (nI i)), o5, o6] [] (jS z n V) := by
  obtain ⟨k, r, V1, V2, lx, lm, mc, ms, T', ⟨b1, b2, b3, b4, b5⟩, hx, hm, e0, e1, e2, hI⟩ := C
  refine j_aload_n K 1 dL_law_2535 rfl rfl ?_
  refine j_aload_n K 0 dL_law_2536 rfl rfl ?_
  refine j_iload K dL_law_2537 rfl ?_
  refine j_iconst K 1 dL_law_2539 rfl ?_
  refine j_iadd K dL_law_2540 ?_
  refine j_sald K hX (i + 1) dL_law_2541 (jx_add (a := i) (b := 1) rfl rfl) (by omega) ?_
  refine j_aload_n K 3 dL_law_2542 rfl rfl ?_
  refine j_callSH K hN dL_law_2543 mw_isRight sw_isRight k_L_277 (hx z) rfl rfl (by simp [Value.category]) ⟨(by show _ ≤ 14; omega), (by show _ ≤ 518; omega)⟩ (by omega) (by omega) (fun v9 M9 hq => ?_) (fun E9 M9 hq => absurd hq.1 (fun w => nomatch w))
  obtain ⟨h9, hM⟩ := hq
  cases h9
  obtain ⟨z9, q9⟩ := M9
  cases hM
  refine j_istore K dL_law_2546 (by decide) ?_
  refine j_aload_n K 2 dL_law_2548 rfl rfl ?_
  refine j_aload_n K 0 dL_law_2549 rfl rfl ?_
  refine j_iload K dL_law_2550 rfl ?_
  refine j_iconst K 1 dL_law_2552 rfl ?_
  refine j_iadd K dL_law_2553 ?_
  refine j_sald K hX (i + 1) dL_law_2554 (jx_add (a := i) (b := 1) rfl rfl) (by omega) ?_
  refine j_callV K dL_law_2555 m_X6_isRight v_X6_isRight k_L_279 rfl ⟨by decide, rfl⟩ rfl (hm z9) rfl rfl (by simp [Value.category]) ⟨(by show _ ≤ 14; omega), (by show _ ≤ 518; omega)⟩ (Nat.zero_le _) (Nat.zero_le _) (fun v9 M9 hq => ?_) (fun E9 M9 hq => absurd hq.1 (fun w => nomatch w))
  obtain ⟨h9, rfl⟩ := hq
  cases h9
  refine j_istore K dL_law_2558 (by decide) ?_
  refine j_aload_n K 2 dL_law_2560 rfl rfl ?_
  refine j_callV K dL_law_2561 m_X6_thrown v_X6_thrown k_L_139 rfl ⟨by decide, rfl⟩ rfl c_M_thrown rfl rfl (by simp [Value.category]) ⟨(by show _ ≤ 14; decide), (by show _ ≤ 518; decide)⟩ (Nat.zero_le _) (Nat.zero_le _) (fun v9 M9 hq => ?_) (fun E9 M9 hq => absurd hq.1 (fun w => nomatch w))
  obtain ⟨h9, rfl⟩ := hq
  cases h9
  refine j_iload K dL_law_2564 rfl ?_
  refine j_icmp_eq K 2571 dL_law_2566 (by decide) (fun _ => ?_) (fun hne => absurd e0 hne)
  refine j_iload K dL_law_2571 rfl ?_
  refine j_if_ne K 2595 dL_law_2573 (by decide) (fun hk => ?_) (fun hk => ?_)
  · refine j_goto K 2611 dL_law_2595 (by decide) ?_
    exact jW_mono (kk z9 V2 T' _ _ hI b5) (by omega) (by omega)
  · refine j_aload_n K 3 dL_law_2576 rfl rfl ?_
    refine j_iconst K 0 dL_law_2577 rfl ?_
    refine jLald K 0 dL_law_2578 rfl rfl rfl (by decide) ?_
    refine j_iload K dL_law_2579 rfl ?_
    rw [e1 hk]
    refine j_if_eq K 2588 dL_law_2581 (by decide) (fun hz => ?_) (fun hz => ?_)
    · refine j_lconst K 0 dL_law_2588 rfl ?_
      refine j_lcmp K dL_law_2589 ?_
      rw [show lg_cmp r.toInt64 0 = 0 from by rw [hz]; exact lg_cmp_self 0]
      refine j_if_eq K 2595 dL_law_2590 (by decide) (fun _ => ?_) (fun hne => absurd rfl hne)
      refine j_goto K 2611 dL_law_2595 (by decide) ?_
      exact jW_mono (kk z9 V2 T' _ _ hI b5) (by omega) (by omega)
    · refine j_lconst K 1 dL_law_2584 rfl ?_
      refine j_goto K 2589 dL_law_2585 (by decide) ?_
      refine j_lcmp K dL_law_2589 ?_
      rw [show lg_cmp r.toInt64 1 = 0 from by rw [(e2 hk).resolve_left hz]; exact lg_cmp_self 1]
      refine j_if_eq K 2595 dL_law_2590 (by decide) (fun _ => ?_) (fun hne => absurd rfl hne)
      refine j_goto K 2611 dL_law_2595 (by decide) ?_
      exact jW_mono (kk z9 V2 T' _ _ hI b5) (by omega) (by omega)
set_option maxRecDepth 20000 in
set_option maxHeartbeats 400000 in
theorem law_rightBoards (K : jK p l room_1 s m args meth c D ca q0 sa RL cL_law 7 ret) (C : CaseS l D ca q0 sa ad yX5_rightBoards cX5_rightBoards 3 yX6_rightBoards cX6_rightBoards 3 T n V) (hkc : 1 ≤ kc) (hks : 6 ≤ ks) (kk : ∀ (z : Nat) (V : jV) (T' : Nat) (o5 o6 : Option Value), Inv T' n V V → T' ≤ T + 60 → jW p l e room_1 s m args below meth c D ca q0 ad 7 Q (kc - 1) (ks - 6) 2611 [some (.ref b), some (.ref (ad 0 0)), some (.ref (ad 20 0)), some (.ref (ad 60 0)), some (.int (nI i)), o5, o6] [] (jS z n V)) : jW p l e room_1 s m args below meth c D ca q0 ad 7 Q kc ks 2598 [some (.ref b), some (.ref (ad 0 0)), some (.ref (ad 20 0)), some (.ref (ad 60 0)), some (.int (nI i)), o5, o6] [] (jS z n V) := by
  obtain ⟨r, V1, V2, lx, lm, ⟨b1, b2⟩, hx, hm, hI⟩ := C
  refine j_aload_n K 1 dL_law_2598 rfl rfl ?_
  refine j_callV K dL_law_2599 m_X5_rightBoards v_X5_rightBoards k_L_280 rfl ⟨by decide, rfl⟩ rfl (hx z) rfl rfl (by simp [Value.category]) ⟨(by show _ ≤ 14; omega), (by show _ ≤ 518; omega)⟩ (Nat.zero_le _) (Nat.zero_le _) (fun v9 M9 hq => ?_) (fun E9 M9 hq => absurd hq.1 (fun w => nomatch w))
  obtain ⟨h9, rfl⟩ := hq
  cases h9
  refine j_aload_n K 2 dL_law_2602 rfl rfl ?_
  refine j_callV K dL_law_2603 m_X6_rightBoards v_X6_rightBoards k_L_283 rfl ⟨by decide, rfl⟩ rfl (hm z) rfl rfl (by simp [Value.category]) ⟨(by show _ ≤ 14; omega), (by show _ ≤ 518; omega)⟩ (Nat.zero_le _) (Nat.zero_le _) (fun v9 M9 hq => ?_) (fun E9 M9 hq => absurd hq.1 (fun w => nomatch w))
  obtain ⟨h9, rfl⟩ := hq
  cases h9
  refine j_icmp_eq K 2611 dL_law_2606 (by decide) (fun _ => ?_) (fun hne => absurd rfl hne)
  exact jW_mono (kk z V2 T _ _ hI (by omega)) (by omega) (by omega)
end W
