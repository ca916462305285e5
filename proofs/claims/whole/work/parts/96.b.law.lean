section W
variable {p : Program} {l : Launch} {e : Env} {s : State} {m : MethodId} {args : Array Value} {below : List Frame} {meth : Method} {c : Code} {D : va_G} {ca : Nat → ClassId} {q0 : Nat} {sa : Nat → Nat} {Q : State → Prop} {b L : Nat} {xs : Nat → Int32} {ad : jAd} {z n i T : Nat} {V : jV} {o5 o6 : Option Value} {kc ks : Nat}
set_option maxRecDepth 20000 in
set_option maxHeartbeats 400000 in
theorem law_report (K : jK p l room_1 s m args meth c D ca q0 sa RL cL_law 7 ret) (hN : jNc s) (hX : jX s q0 b L xs) (hi : i + 6 ≤ L) (C : Case l D ca q0 sa ad yL_report cL_report 6 hL_report yX6_report cX6_report 5 (some .int) [.int (xs (i + 1)), .int (xs (i + 2)), .int (xs (i + 3))] T n V) (hkc : 1 ≤ kc) (hks : 6 ≤ ks) (kk : ∀ (z : Nat) (V : jV) (T' : Nat) (o5 o6 : Option Value), Inv T' n V V → T' ≤ T + 60 → jW p l e room_1 s m args below meth c D ca q0 ad 7 Q (kc - 1) (ks - 6) 2611 [some (.ref b), some (.ref (ad 0 0)), some (.ref (ad 20 0)), some (.ref (ad 60 0)), some (.int (nI i)), o5, o6] [] (jS z n V)) : jW p l e room_1 s m args below meth c D ca q0 ad 7 Q kc ks 937 [some (.ref b), some (.ref (ad 0 0)), some (.ref (ad 20 0)), some (.ref (ad 60 0)), some (.int (nI i)), o5, o6] [] (jS z n V) := by
  obtain ⟨k, r, V1, V2, lx, lm, mc, ms, T', ⟨b1, b2, b3, b4, b5⟩, hx, hm, e0, e1, hI⟩ := C
  refine j_aload_n K 1 dL_law_937 rfl rfl ?_
  refine j_aload_n K 0 dL_law_938 rfl rfl ?_
  refine j_iload K dL_law_939 rfl ?_
  refine j_iconst K 1 dL_law_941 rfl ?_
  refine j_iadd K dL_law_942 ?_
  refine j_sald K hX (i + 1) dL_law_943 (jx_add (a := i) (b := 1) rfl rfl) (by omega) ?_
  refine j_aload_n K 0 dL_law_944 rfl rfl ?_
  refine j_iload K dL_law_945 rfl ?_
  refine j_iconst K 2 dL_law_947 rfl ?_
  refine j_iadd K dL_law_948 ?_
  refine j_sald K hX (i + 2) dL_law_949 (jx_add (a := i) (b := 2) rfl rfl) (by omega) ?_
  refine j_aload_n K 0 dL_law_950 rfl rfl ?_
  refine j_iload K dL_law_951 rfl ?_
  refine j_iconst K 3 dL_law_953 rfl ?_
  refine j_iadd K dL_law_954 ?_
  refine j_sald K hX (i + 3) dL_law_955 (jx_add (a := i) (b := 3) rfl rfl) (by omega) ?_
  refine j_aload_n K 3 dL_law_956 rfl rfl ?_
  refine j_callSH K hN dL_law_957 mw_report sw_report k_L_177 (hx z) rfl rfl (by simp [Value.category]) ⟨(by show _ ≤ 14; omega), (by show _ ≤ 518; omega)⟩ (by omega) (by omega) (fun v9 M9 hq => ?_) (fun E9 M9 hq => absurd hq.1 (fun w => nomatch w))
  obtain ⟨h9, hM⟩ := hq
  cases h9
  obtain ⟨z9, q9⟩ := M9
  cases hM
  refine j_istore K dL_law_960 (by decide) ?_
  refine j_aload_n K 2 dL_law_962 rfl rfl ?_
  refine j_aload_n K 0 dL_law_963 rfl rfl ?_
  refine j_iload K dL_law_964 rfl ?_
  refine j_iconst K 1 dL_law_966 rfl ?_
  refine j_iadd K dL_law_967 ?_
  refine j_sald K hX (i + 1) dL_law_968 (jx_add (a := i) (b := 1) rfl rfl) (by omega) ?_
  refine j_aload_n K 0 dL_law_969 rfl rfl ?_
  refine j_iload K dL_law_970 rfl ?_
  refine j_iconst K 2 dL_law_972 rfl ?_
  refine j_iadd K dL_law_973 ?_
  refine j_sald K hX (i + 2) dL_law_974 (jx_add (a := i) (b := 2) rfl rfl) (by omega) ?_
  refine j_aload_n K 0 dL_law_975 rfl rfl ?_
  refine j_iload K dL_law_976 rfl ?_
  refine j_iconst K 3 dL_law_978 rfl ?_
  refine j_iadd K dL_law_979 ?_
  refine j_sald K hX (i + 3) dL_law_980 (jx_add (a := i) (b := 3) rfl rfl) (by omega) ?_
  refine j_callV K dL_law_981 m_X6_report v_X6_report k_L_179 rfl ⟨by decide, rfl⟩ rfl (hm z9) rfl rfl (by simp [Value.category]) ⟨(by show _ ≤ 14; omega), (by show _ ≤ 518; omega)⟩ (Nat.zero_le _) (Nat.zero_le _) (fun v9 M9 hq => ?_) (fun E9 M9 hq => absurd hq.1 (fun w => nomatch w))
  obtain ⟨h9, rfl⟩ := hq
  cases h9
  refine j_istore K dL_law_984 (by decide) ?_
  refine j_aload_n K 2 dL_law_986 rfl rfl ?_
  refine j_callV K dL_law_987 m_X6_thrown v_X6_thrown k_L_139 rfl ⟨by decide, rfl⟩ rfl c_M_thrown rfl rfl (by simp [Value.category]) ⟨(by show _ ≤ 14; decide), (by show _ ≤ 518; decide)⟩ (Nat.zero_le _) (Nat.zero_le _) (fun v9 M9 hq => ?_) (fun E9 M9 hq => absurd hq.1 (fun w => nomatch w))
  obtain ⟨h9, rfl⟩ := hq
  cases h9
  refine j_iload K dL_law_990 rfl ?_
  refine j_icmp_eq K 997 dL_law_992 (by decide) (fun _ => ?_) (fun hne => absurd e0 hne)
  refine j_iload K dL_law_997 rfl ?_
  refine j_if_ne K 1014 dL_law_999 (by decide) (fun hk => ?_) (fun hk => ?_)
  · refine j_goto K 2611 dL_law_1014 (by decide) ?_
    exact jW_mono (kk z9 V2 T' _ _ hI b5) (by omega) (by omega)
  · refine j_aload_n K 3 dL_law_1002 rfl rfl ?_
    refine j_iconst K 0 dL_law_1003 rfl ?_
    refine jLald K 0 dL_law_1004 rfl rfl rfl (by decide) ?_
    refine j_iload K dL_law_1005 rfl ?_
    rw [e1 hk]
    refine j_i2l K dL_law_1007 ?_
    refine j_lcmp K dL_law_1008 ?_
    rw [lg_cmp_self]
    refine j_if_eq K 1014 dL_law_1009 (by decide) (fun _ => ?_) (fun hne => absurd rfl hne)
    refine j_goto K 2611 dL_law_1014 (by decide) ?_
    exact jW_mono (kk z9 V2 T' _ _ hI b5) (by omega) (by omega)
set_option maxRecDepth 20000 in
set_option maxHeartbeats 400000 in
theorem law_observe (K : jK p l room_1 s m args meth c D ca q0 sa RL cL_law 7 ret) (hN : jNc s) (hX : jX s q0 b L xs) (hi : i + 6 ≤ L) (C : Case l D ca q0 sa ad yL_observe cL_observe 5 hL_observe yX6_observe cX6_observe 7 (some .int) [.int (xs (i + 1)), .int (xs (i + 2))] T n V) (hkc : 1 ≤ kc) (hks : 6 ≤ ks) (kk : ∀ (z : Nat) (V : jV) (T' : Nat) (o5 o6 : Option Value), Inv T' n V V → T' ≤ T + 60 → jW p l e room_1 s m args below meth c D ca q0 ad 7 Q (kc - 1) (ks - 6) 2611 [some (.ref b), some (.ref (ad 0 0)), some (.ref (ad 20 0)), some (.ref (ad 60 0)), some (.int (nI i)), o5, o6] [] (jS z n V)) : jW p l e room_1 s m args below meth c D ca q0 ad 7 Q kc ks 1017 [some (.ref b), some (.ref (ad 0 0)), some (.ref (ad 20 0)), some (.ref (ad 60 0)), some (.int (nI i)), o5, o6] [] (jS z n V) := by
  obtain ⟨k, r, V1, V2, lx, lm, mc, ms, T', ⟨b1, b2, b3, b4, b5⟩, hx, hm, e0, e1, hI⟩ := C
  refine j_aload_n K 1 dL_law_1017 rfl rfl ?_
  refine j_aload_n K 0 dL_law_1018 rfl rfl ?_
  refine j_iload K dL_law_1019 rfl ?_
  refine j_iconst K 1 dL_law_1021 rfl ?_
  refine j_iadd K dL_law_1022 ?_
  refine j_sald K hX (i + 1) dL_law_1023 (jx_add (a := i) (b := 1) rfl rfl) (by omega) ?_
  refine j_aload_n K 0 dL_law_1024 rfl rfl ?_
  refine j_iload K dL_law_1025 rfl ?_
  refine j_iconst K 2 dL_law_1027 rfl ?_
  refine j_iadd K dL_law_1028 ?_
  refine j_sald K hX (i + 2) dL_law_1029 (jx_add (a := i) (b := 2) rfl rfl) (by omega) ?_
  refine j_aload_n K 3 dL_law_1030 rfl rfl ?_
  refine j_callSH K hN dL_law_1031 mw_observe sw_observe k_L_180 (hx z) rfl rfl (by simp [Value.category]) ⟨(by show _ ≤ 14; omega), (by show _ ≤ 518; omega)⟩ (by omega) (by omega) (fun v9 M9 hq => ?_) (fun E9 M9 hq => absurd hq.1 (fun w => nomatch w))
  obtain ⟨h9, hM⟩ := hq
  cases h9
  obtain ⟨z9, q9⟩ := M9
  cases hM
  refine j_istore K dL_law_1034 (by decide) ?_
  refine j_aload_n K 2 dL_law_1036 rfl rfl ?_
  refine j_aload_n K 0 dL_law_1037 rfl rfl ?_
  refine j_iload K dL_law_1038 rfl ?_
  refine j_iconst K 1 dL_law_1040 rfl ?_
  refine j_iadd K dL_law_1041 ?_
  refine j_sald K hX (i + 1) dL_law_1042 (jx_add (a := i) (b := 1) rfl rfl) (by omega) ?_
  refine j_aload_n K 0 dL_law_1043 rfl rfl ?_
  refine j_iload K dL_law_1044 rfl ?_
  refine j_iconst K 2 dL_law_1046 rfl ?_
  refine j_iadd K dL_law_1047 ?_
  refine j_sald K hX (i + 2) dL_law_1048 (jx_add (a := i) (b := 2) rfl rfl) (by omega) ?_
  refine j_callV K dL_law_1049 m_X6_observe v_X6_observe k_L_182 rfl ⟨by decide, rfl⟩ rfl (hm z9) rfl rfl (by simp [Value.category]) ⟨(by show _ ≤ 14; omega), (by show _ ≤ 518; omega)⟩ (Nat.zero_le _) (Nat.zero_le _) (fun v9 M9 hq => ?_) (fun E9 M9 hq => absurd hq.1 (fun w => nomatch w))
  obtain ⟨h9, rfl⟩ := hq
  cases h9
  refine j_istore K dL_law_1052 (by decide) ?_
  refine j_aload_n K 2 dL_law_1054 rfl rfl ?_
  refine j_callV K dL_law_1055 m_X6_thrown v_X6_thrown k_L_139 rfl ⟨by decide, rfl⟩ rfl c_M_thrown rfl rfl (by simp [Value.category]) ⟨(by show _ ≤ 14; decide), (by show _ ≤ 518; decide)⟩ (Nat.zero_le _) (Nat.zero_le _) (fun v9 M9 hq => ?_) (fun E9 M9 hq => absurd hq.1 (fun w => nomatch w))
  obtain ⟨h9, rfl⟩ := hq
  cases h9
  refine j_iload K dL_law_1058 rfl ?_
  refine j_icmp_eq K 1065 dL_law_1060 (by decide) (fun _ => ?_) (fun hne => absurd e0 hne)
  refine j_iload K dL_law_1065 rfl ?_
  refine j_if_ne K 1082 dL_law_1067 (by decide) (fun hk => ?_) (fun hk => ?_)
  · refine j_goto K 2611 dL_law_1082 (by decide) ?_
    exact jW_mono (kk z9 V2 T' _ _ hI b5) (by omega) (by omega)
  · refine j_aload_n K 3 dL_law_1070 rfl rfl ?_
    refine j_iconst K 0 dL_law_1071 rfl ?_
    refine jLald K 0 dL_law_1072 rfl rfl rfl (by decide) ?_
    refine j_iload K dL_law_1073 rfl ?_
    rw [e1 hk]
    refine j_i2l K dL_law_1075 ?_
    refine j_lcmp K dL_law_1076 ?_
    rw [lg_cmp_self]
    refine j_if_eq K 1082 dL_law_1077 (by decide) (fun _ => ?_) (fun hne => absurd rfl hne)
    refine j_goto K 2611 dL_law_1082 (by decide) ?_
    exact jW_mono (kk z9 V2 T' _ _ hI b5) (by omega) (by omega)
set_option maxRecDepth 20000 in
set_option maxHeartbeats 400000 in
theorem law_correctionOf (K : jK p l room_1 s m args meth c D ca q0 sa RL cL_law 7 ret) (hN : jNc s) (hX : jX s q0 b L xs) (hi : i + 6 ≤ L) (C : Case l D ca q0 sa ad yL_correctionOf cL_correctionOf 4 hL_correctionOf yX6_correctionOf cX6_correctionOf 2 (some .int) [.int (xs (i + 1))] T n V) (hkc : 1 ≤ kc) (hks : 6 ≤ ks) (kk : ∀ (z : Nat) (V : jV) (T' : Nat) (o5 o6 : Option Value), Inv T' n V V → T' ≤ T + 60 → jW p l e room_1 s m args below meth c D ca q0 ad 7 Q (kc - 1) (ks - 6) 2611 [some (.ref b), some (.ref (ad 0 0)), some (.ref (ad 20 0)), some (.ref (ad 60 0)), some (.int (nI i)), o5, o6] [] (jS z n V)) : jW p l e room_1 s m args below meth c D ca q0 ad 7 Q kc ks 1085 [some (.ref b), some (.ref (ad 0 0)), some (.ref (ad 20 0)), some (.ref (ad 60 0)), some (.int (nI i)), o5, o6] [] (jS z n V) := by
  obtain ⟨k, r, V1, V2, lx, lm, mc, ms, T', ⟨b1, b2, b3, b4, b5⟩, hx, hm, e0, e1, hI⟩ := C
  refine j_aload_n K 1 dL_law_1085 rfl rfl ?_
  refine j_aload_n K 0 dL_law_1086 rfl rfl ?_
  refine j_iload K dL_law_1087 rfl ?_
  refine j_iconst K 1 dL_law_1089 rfl ?_
  refine j_iadd K dL_law_1090 ?_
  refine j_sald K hX (i + 1) dL_law_1091 (jx_add (a := i) (b := 1) rfl rfl) (by omega) ?_
  refine j_aload_n K 3 dL_law_1092 rfl rfl ?_
  refine j_callSH K hN dL_law_1093 mw_correctionOf sw_correctionOf k_L_183 (hx z) rfl rfl (by simp [Value.category]) ⟨(by show _ ≤ 14; omega), (by show _ ≤ 518; omega)⟩ (by omega) (by omega) (fun v9 M9 hq => ?_) (fun E9 M9 hq => absurd hq.1 (fun w => nomatch w))
  obtain ⟨h9, hM⟩ := hq
  cases h9
  obtain ⟨z9, q9⟩ := M9
  cases hM
  refine j_istore K dL_law_1096 (by decide) ?_
  refine j_aload_n K 2 dL_law_1098 rfl rfl ?_
  refine j_aload_n K 0 dL_law_1099 rfl rfl ?_
  refine j_iload K dL_law_1100 rfl ?_
  refine j_iconst K 1 dL_law_1102 rfl ?_
  refine j_iadd K dL_law_1103 ?_
  refine j_sald K hX (i + 1) dL_law_1104 (jx_add (a := i) (b := 1) rfl rfl) (by omega) ?_
  refine j_callV K dL_law_1105 m_X6_correctionOf v_X6_correctionOf k_L_185 rfl ⟨by decide, rfl⟩ rfl (hm z9) rfl rfl (by simp [Value.category]) ⟨(by show _ ≤ 14; omega), (by show _ ≤ 518; omega)⟩ (Nat.zero_le _) (Nat.zero_le _) (fun v9 M9 hq => ?_) (fun E9 M9 hq => absurd hq.1 (fun w => nomatch w))
  obtain ⟨h9, rfl⟩ := hq
  cases h9
  refine j_istore K dL_law_1108 (by decide) ?_
  refine j_aload_n K 2 dL_law_1110 rfl rfl ?_
  refine j_callV K dL_law_1111 m_X6_thrown v_X6_thrown k_L_139 rfl ⟨by decide, rfl⟩ rfl c_M_thrown rfl rfl (by simp [Value.category]) ⟨(by show _ ≤ 14; decide), (by show _ ≤ 518; decide)⟩ (Nat.zero_le _) (Nat.zero_le _) (fun v9 M9 hq => ?_) (fun E9 M9 hq => absurd hq.1 (fun w => nomatch w))
  obtain ⟨h9, rfl⟩ := hq
  cases h9
  refine j_iload K dL_law_1114 rfl ?_
  refine j_icmp_eq K 1121 dL_law_1116 (by decide) (fun _ => ?_) (fun hne => absurd e0 hne)
  refine j_iload K dL_law_1121 rfl ?_
  refine j_if_ne K 1138 dL_law_1123 (by decide) (fun hk => ?_) (fun hk => ?_)
  · refine j_goto K 2611 dL_law_1138 (by decide) ?_
    exact jW_mono (kk z9 V2 T' _ _ hI b5) (by omega) (by omega)
  · refine j_aload_n K 3 dL_law_1126 rfl rfl ?_
    refine j_iconst K 0 dL_law_1127 rfl ?_
    refine jLald K 0 dL_law_1128 rfl rfl rfl (by decide) ?_
    refine j_iload K dL_law_1129 rfl ?_
    rw [e1 hk]
    refine j_i2l K dL_law_1131 ?_
    refine j_lcmp K dL_law_1132 ?_
    rw [lg_cmp_self]
    refine j_if_eq K 1138 dL_law_1133 (by decide) (fun _ => ?_) (fun hne => absurd rfl hne)
    refine j_goto K 2611 dL_law_1138 (by decide) ?_
    exact jW_mono (kk z9 V2 T' _ _ hI b5) (by omega) (by omega)
set_option maxRecDepth 20000 in
set_option maxHeartbeats 400000 in
theorem law_trustOf (K : jK p l room_1 s m args meth c D ca q0 sa RL cL_law 7 ret) (hN : jNc s) (hX : jX s q0 b L xs) (hi : i + 6 ≤ L) (C : Case l D ca q0 sa ad yL_trustOf cL_trustOf 4 hL_trustOf yX6_trustOf cX6_trustOf 2 (some .int) [.int (xs (i + 1))] T n V) (hkc : 1 ≤ kc) (hks : 6 ≤ ks) (kk : ∀ (z : Nat) (V : jV) (T' : Nat) (o5 o6 : Option Value), Inv T' n V V → T' ≤ T + 60 → jW p l e room_1 s m args below meth c D ca q0 ad 7 Q (kc - 1) (ks - 6) 2611 [some (.ref b), some (.ref (ad 0 0)), some (.ref (ad 20 0)), some (.ref (ad 60 0)), some (.int (nI i)), o5, o6] [] (jS z n V)) : jW p l e room_1 s m args below meth c D ca q0 ad 7 Q kc ks 1141 [some (.ref b), some (.ref (ad 0 0)), some (.ref (ad 20 0)), some (.ref (ad 60 0)), some (.int (nI i)), o5, o6] [] (jS z n V) := by
  obtain ⟨k, r, V1, V2, lx, lm, mc, ms, T', ⟨b1, b2, b3, b4, b5⟩, hx, hm, e0, e1, hI⟩ := C
  refine j_aload_n K 1 dL_law_1141 rfl rfl ?_
  refine j_aload_n K 0 dL_law_1142 rfl rfl ?_
  refine j_iload K dL_law_1143 rfl ?_
  refine j_iconst K 1 dL_law_1145 rfl ?_
  refine j_iadd K dL_law_1146 ?_
  refine j_sald K hX (i + 1) dL_law_1147 (jx_add (a := i) (b := 1) rfl rfl) (by omega) ?_
  refine j_aload_n K 3 dL_law_1148 rfl rfl ?_
  refine j_callSH K hN dL_law_1149 mw_trustOf sw_trustOf k_L_186 (hx z) rfl rfl (by simp [Value.category]) ⟨(by show _ ≤ 14; omega), (by show _ ≤ 518; omega)⟩ (by omega) (by omega) (fun v9 M9 hq => ?_) (fun E9 M9 hq => absurd hq.1 (fun w => nomatch w))
  obtain ⟨h9, hM⟩ := hq
  cases h9
  obtain ⟨z9, q9⟩ := M9
  cases hM
  refine j_istore K dL_law_1152 (by decide) ?_
  refine j_aload_n K 2 dL_law_1154 rfl rfl ?_
  refine j_aload_n K 0 dL_law_1155 rfl rfl ?_
  refine j_iload K dL_law_1156 rfl ?_
  refine j_iconst K 1 dL_law_1158 rfl ?_
  refine j_iadd K dL_law_1159 ?_
  refine j_sald K hX (i + 1) dL_law_1160 (jx_add (a := i) (b := 1) rfl rfl) (by omega) ?_
  refine j_callV K dL_law_1161 m_X6_trustOf v_X6_trustOf k_L_188 rfl ⟨by decide, rfl⟩ rfl (hm z9) rfl rfl (by simp [Value.category]) ⟨(by show _ ≤ 14; omega), (by show _ ≤ 518; omega)⟩ (Nat.zero_le _) (Nat.zero_le _) (fun v9 M9 hq => ?_) (fun E9 M9 hq => absurd hq.1 (fun w => nomatch w))
  obtain ⟨h9, rfl⟩ := hq
  cases h9
  refine j_istore K dL_law_1164 (by decide) ?_
  refine j_aload_n K 2 dL_law_1166 rfl rfl ?_
  refine j_callV K dL_law_1167 m_X6_thrown v_X6_thrown k_L_139 rfl ⟨by decide, rfl⟩ rfl c_M_thrown rfl rfl (by simp [Value.category]) ⟨(by show _ ≤ 14; decide), (by show _ ≤ 518; decide)⟩ (Nat.zero_le _) (Nat.zero_le _) (fun v9 M9 hq => ?_) (fun E9 M9 hq => absurd hq.1 (fun w => nomatch w))
  obtain ⟨h9, rfl⟩ := hq
  cases h9
  refine j_iload K dL_law_1170 rfl ?_
  refine j_icmp_eq K 1177 dL_law_1172 (by decide) (fun _ => ?_) (fun hne => absurd e0 hne)
  refine j_iload K dL_law_1177 rfl ?_
  refine j_if_ne K 1194 dL_law_1179 (by decide) (fun hk => ?_) (fun hk => ?_)
  · refine j_goto K 2611 dL_law_1194 (by decide) ?_
    exact jW_mono (kk z9 V2 T' _ _ hI b5) (by omega) (by omega)
  · refine j_aload_n K 3 dL_law_1182 rfl rfl ?_
    refine j_iconst K 0 dL_law_1183 rfl ?_
    refine jLald K 0 dL_law_1184 rfl rfl rfl (by decide) ?_
    refine j_iload K dL_law_1185 rfl ?_
    rw [e1 hk]
    refine j_i2l K dL_law_1187 ?_
    refine j_lcmp K dL_law_1188 ?_
    rw [lg_cmp_self]
    refine j_if_eq K 1194 dL_law_1189 (by decide) (fun _ => ?_) (fun hne => absurd rfl hne)
    refine j_goto K 2611 dL_law_1194 (by decide) ?_
    exact jW_mono (kk z9 V2 T' _ _ hI b5) (by omega) (by omega)
set_option maxRecDepth 20000 in
set_option maxHeartbeats 400000 in
theorem law_reportCount (K : jK p l room_1 s m args meth c D ca q0 sa RL cL_law 7 ret) (hN : jNc s) (hX : jX s q0 b L xs) (hi : i + 6 ≤ L) (C : Case l D ca q0 sa ad yL_reportCount cL_reportCount 4 hL_reportCount yX6_reportCount cX6_reportCount 2 (some .int) [.int (xs (i + 1))] T n V) (hkc : 1 ≤ kc) (hks : 6 ≤ ks) (kk : ∀ (z : Nat) (V : jV) (T' : Nat) (o5 o6 : Option Value), Inv T' n V V → T' ≤ T + 60 → jW p l e room_1 s m args below meth c D ca q0 ad 7 Q (kc - 1) (ks - 6) 2611 [some (.ref b), some (.ref (ad 0 0)), some (.ref (ad 20 0)), some (.ref (ad 60 0)), some (.int (nI i)), o5, o6] [] (jS z n V)) : jW p l e room_1 s m args below meth c D ca q0 ad 7 Q kc ks 1197 [some (.ref b), some (.ref (ad 0 0)), some (.ref (ad 20 0)), some (.ref (ad 60 0)), some (.int (nI i)), o5, o6] [] (jS z n V) := by
  obtain ⟨k, r, V1, V2, lx, lm, mc, ms, T', ⟨b1, b2, b3, b4, b5⟩, hx, hm, e0, e1, hI⟩ := C
  refine j_aload_n K 1 dL_law_1197 rfl rfl ?_
  refine j_aload_n K 0 dL_law_1198 rfl rfl ?_
  refine j_iload K dL_law_1199 rfl ?_
  refine j_iconst K 1 dL_law_1201 rfl ?_
  refine j_iadd K dL_law_1202 ?_
  refine j_sald K hX (i + 1) dL_law_1203 (jx_add (a := i) (b := 1) rfl rfl) (by omega) ?_
  refine j_aload_n K 3 dL_law_1204 rfl rfl ?_
  refine j_callSH K hN dL_law_1205 mw_reportCount sw_reportCount k_L_189 (hx z) rfl rfl (by simp [Value.category]) ⟨(by show _ ≤ 14; omega), (by show _ ≤ 518; omega)⟩ (by omega) (by omega) (fun v9 M9 hq => ?_) (fun E9 M9 hq => absurd hq.1 (fun w => nomatch w))
  obtain ⟨h9, hM⟩ := hq
  cases h9
  obtain ⟨z9, q9⟩ := M9
  cases hM
  refine j_istore K dL_law_1208 (by decide) ?_
  refine j_aload_n K 2 dL_law_1210 rfl rfl ?_
  refine j_aload_n K 0 dL_law_1211 rfl rfl ?_
  refine j_iload K dL_law_1212 rfl ?_
  refine j_iconst K 1 dL_law_1214 rfl ?_
  refine j_iadd K dL_law_1215 ?_
  refine j_sald K hX (i + 1) dL_law_1216 (jx_add (a := i) (b := 1) rfl rfl) (by omega) ?_
  refine j_callV K dL_law_1217 m_X6_reportCount v_X6_reportCount k_L_191 rfl ⟨by decide, rfl⟩ rfl (hm z9) rfl rfl (by simp [Value.category]) ⟨(by show _ ≤ 14; omega), (by show _ ≤ 518; omega)⟩ (Nat.zero_le _) (Nat.zero_le _) (fun v9 M9 hq => ?_) (fun E9 M9 hq => absurd hq.1 (fun w => nomatch w))
  obtain ⟨h9, rfl⟩ := hq
  cases h9
  refine j_istore K dL_law_1220 (by decide) ?_
  refine j_aload_n K 2 dL_law_1222 rfl rfl ?_
  refine j_callV K dL_law_1223 m_X6_thrown v_X6_thrown k_L_139 rfl ⟨by decide, rfl⟩ rfl c_M_thrown rfl rfl (by simp [Value.category]) ⟨(by show _ ≤ 14; decide), (by show _ ≤ 518; decide)⟩ (Nat.zero_le _) (Nat.zero_le _) (fun v9 M9 hq => ?_) (fun E9 M9 hq => absurd hq.1 (fun w => nomatch w))
  obtain ⟨h9, rfl⟩ := hq
  cases h9
  refine j_iload K dL_law_1226 rfl ?_
  refine j_icmp_eq K 1233 dL_law_1228 (by decide) (fun _ => ?_) (fun hne => absurd e0 hne)
  refine j_iload K dL_law_1233 rfl ?_
  refine j_if_ne K 1250 dL_law_1235 (by decide) (fun hk => ?_) (fun hk => ?_)
  · refine j_goto K 2611 dL_law_1250 (by decide) ?_
    exact jW_mono (kk z9 V2 T' _ _ hI b5) (by omega) (by omega)
  · refine j_aload_n K 3 dL_law_1238 rfl rfl ?_
    refine j_iconst K 0 dL_law_1239 rfl ?_
    refine jLald K 0 dL_law_1240 rfl rfl rfl (by decide) ?_
    refine j_iload K dL_law_1241 rfl ?_
    rw [e1 hk]
    refine j_i2l K dL_law_1243 ?_
    refine j_lcmp K dL_law_1244 ?_
    rw [lg_cmp_self]
    refine j_if_eq K 1250 dL_law_1245 (by decide) (fun _ => ?_) (fun hne => absurd rfl hne)
    refine j_goto K 2611 dL_law_1250 (by decide) ?_
    exact jW_mono (kk z9 V2 T' _ _ hI b5) (by omega) (by omega)
set_option maxRecDepth 20000 in
set_option maxHeartbeats 400000 in
theorem law_reporterAt (K : jK p l room_1 s m args meth c D ca q0 sa RL cL_law 7 ret) (hN : jNc s) (hX : jX s q0 b L xs) (hi : i + 6 ≤ L) (C : Case l D ca q0 sa ad yL_reporterAt cL_reporterAt 5 hL_reporterAt yX6_reporterAt cX6_reporterAt 3 (some .int) [.int (xs (i + 1)), .int (xs (i + 2))] T n V) (hkc : 1 ≤ kc) (hks : 6 ≤ ks) (kk : ∀ (z : Nat) (V : jV) (T' : Nat) (o5 o6 : Option Value), Inv T' n V V → T' ≤ T + 60 → jW p l e room_1 s m args below meth c D ca q0 ad 7 Q (kc - 1) (ks - 6) 2611 [some (.ref b), some (.ref (ad 0 0)), some (.ref (ad 20 0)), some (.ref (ad 60 0)), some (.int (nI i)), o5, o6] [] (jS z n V)) : jW p l e room_1 s m args below meth c D ca q0 ad 7 Q kc ks 1253 [some (.ref b), some (.ref (ad 0 0)), some (.ref (ad 20 0)), some (.ref (ad 60 0)), some (.int (nI i)), o5, o6] [] (jS z n V) := by
  obtain ⟨k, r, V1, V2, lx, lm, mc, ms, T', ⟨b1, b2, b3, b4, b5⟩, hx, hm, e0, e1, hI⟩ := C
  refine j_aload_n K 1 dL_law_1253 rfl rfl ?_
  refine j_aload_n K 0 dL_law_1254 rfl rfl ?_
  refine j_iload K dL_law_1255 rfl ?_
  refine j_iconst K 1 dL_law_1257 rfl ?_
  refine j_iadd K dL_law_1258 ?_
  refine j_sald K hX (i + 1) dL_law_1259 (jx_add (a := i) (b := 1) rfl rfl) (by omega) ?_
  refine j_aload_n K 0 dL_law_1260 rfl rfl ?_
  refine j_iload K dL_law_1261 rfl ?_
  refine j_iconst K 2 dL_law_1263 rfl ?_
  refine j_iadd K dL_law_1264 ?_
  refine j_sald K hX (i + 2) dL_law_1265 (jx_add (a := i) (b := 2) rfl rfl) (by omega) ?_
  refine j_aload_n K 3 dL_law_1266 rfl rfl ?_
  refine j_callSH K hN dL_law_1267 mw_reporterAt sw_reporterAt k_L_192 (hx z) rfl rfl (by simp [Value.category]) ⟨(by show _ ≤ 14; omega), (by show _ ≤ 518; omega)⟩ (by omega) (by omega) (fun v9 M9 hq => ?_) (fun E9 M9 hq => absurd hq.1 (fun w => nomatch w))
  obtain ⟨h9, hM⟩ := hq
  cases h9
  obtain ⟨z9, q9⟩ := M9
  cases hM
  refine j_istore K dL_law_1270 (by decide) ?_
  refine j_aload_n K 2 dL_law_1272 rfl rfl ?_
  refine j_aload_n K 0 dL_law_1273 rfl rfl ?_
  refine j_iload K dL_law_1274 rfl ?_
  refine j_iconst K 1 dL_law_1276 rfl ?_
  refine j_iadd K dL_law_1277 ?_
  refine j_sald K hX (i + 1) dL_law_1278 (jx_add (a := i) (b := 1) rfl rfl) (by omega) ?_
  refine j_aload_n K 0 dL_law_1279 rfl rfl ?_
  refine j_iload K dL_law_1280 rfl ?_
  refine j_iconst K 2 dL_law_1282 rfl ?_
  refine j_iadd K dL_law_1283 ?_
  refine j_sald K hX (i + 2) dL_law_1284 (jx_add (a := i) (b := 2) rfl rfl) (by omega) ?_
  refine j_callV K dL_law_1285 m_X6_reporterAt v_X6_reporterAt k_L_194 rfl ⟨by decide, rfl⟩ rfl (hm z9) rfl rfl (by simp [Value.category]) ⟨(by show _ ≤ 14; omega), (by show _ ≤ 518; omega)⟩ (Nat.zero_le _) (Nat.zero_le _) (fun v9 M9 hq => ?_) (fun E9 M9 hq => absurd hq.1 (fun w => nomatch w))
  obtain ⟨h9, rfl⟩ := hq
  cases h9
  refine j_istore K dL_law_1288 (by decide) ?_
  refine j_aload_n K 2 dL_law_1290 rfl rfl ?_
  refine j_callV K dL_law_1291 m_X6_thrown v_X6_thrown k_L_139 rfl ⟨by decide, rfl⟩ rfl c_M_thrown rfl rfl (by simp [Value.category]) ⟨(by show _ ≤ 14; decide), (by show _ ≤ 518; decide)⟩ (Nat.zero_le _) (Nat.zero_le _) (fun v9 M9 hq => ?_) (fun E9 M9 hq => absurd hq.1 (fun w => nomatch w))
  obtain ⟨h9, rfl⟩ := hq
  cases h9
  refine j_iload K dL_law_1294 rfl ?_
  refine j_icmp_eq K 1301 dL_law_1296 (by decide) (fun _ => ?_) (fun hne => absurd e0 hne)
  refine j_iload K dL_law_1301 rfl ?_
  refine j_if_ne K 1318 dL_law_1303 (by decide) (fun hk => ?_) (fun hk => ?_)
  · refine j_goto K 2611 dL_law_1318 (by decide) ?_
    exact jW_mono (kk z9 V2 T' _ _ hI b5) (by omega) (by omega)
  · refine j_aload_n K 3 dL_law_1306 rfl rfl ?_
    refine j_iconst K 0 dL_law_1307 rfl ?_
    refine jLald K 0 dL_law_1308 rfl rfl rfl (by decide) ?_
    refine j_iload K dL_law_1309 rfl ?_
    rw [e1 hk]
    refine j_i2l K dL_law_1311 ?_
    refine j_lcmp K dL_law_1312 ?_
    rw [lg_cmp_self]
    refine j_if_eq K 1318 dL_law_1313 (by decide) (fun _ => ?_) (fun hne => absurd rfl hne)
    refine j_goto K 2611 dL_law_1318 (by decide) ?_
    exact jW_mono (kk z9 V2 T' _ _ hI b5) (by omega) (by omega)
set_option maxRecDepth 20000 in
set_option maxHeartbeats 400000 in
theorem law_reportedMinutes (K : jK p l room_1 s m args meth c D ca q0 sa RL cL_law 7 ret) (hN : jNc s) (hX : jX s q0 b L xs) (hi : i + 6 ≤ L) (C : Case l D ca q0 sa ad yL_reportedMinutes cL_reportedMinutes 5 hL_reportedMinutes yX6_reportedMinutes cX6_reportedMinutes 3 (some .int) [.int (xs (i + 1)), .int (xs (i + 2))] T n V) (hkc : 1 ≤ kc) (hks : 6 ≤ ks) (kk : ∀ (z : Nat) (V : jV) (T' : Nat) (o5 o6 : Option Value), Inv T' n V V → T' ≤ T + 60 → jW p l e room_1 s m args below meth c D ca q0 ad 7 Q (kc - 1) (ks - 6) 2611 [some (.ref b), some (.ref (ad 0 0)), some (.ref (ad 20 0)), some (.ref (ad 60 0)), some (.int (nI i)), o5, o6] [] (jS z n V)) : jW p l e room_1 s m args below meth c D ca q0 ad 7 Q kc ks 1321 [some (.ref b), some (.ref (ad 0 0)), some (.ref (ad 20 0)), some (.ref (ad 60 0)), some (.int (nI i)), o5, o6] [] (jS z n V) := by
  obtain ⟨k, r, V1, V2, lx, lm, mc, ms, T', ⟨b1, b2, b3, b4, b5⟩, hx, hm, e0, e1, hI⟩ := C
  refine j_aload_n K 1 dL_law_1321 rfl rfl ?_
  refine j_aload_n K 0 dL_law_1322 rfl rfl ?_
  refine j_iload K dL_law_1323 rfl ?_
  refine j_iconst K 1 dL_law_1325 rfl ?_
  refine j_iadd K dL_law_1326 ?_
  refine j_sald K hX (i + 1) dL_law_1327 (jx_add (a := i) (b := 1) rfl rfl) (by omega) ?_
  refine j_aload_n K 0 dL_law_1328 rfl rfl ?_
  refine j_iload K dL_law_1329 rfl ?_
  refine j_iconst K 2 dL_law_1331 rfl ?_
  refine j_iadd K dL_law_1332 ?_
  refine j_sald K hX (i + 2) dL_law_1333 (jx_add (a := i) (b := 2) rfl rfl) (by omega) ?_
  refine j_aload_n K 3 dL_law_1334 rfl rfl ?_
  refine j_callSH K hN dL_law_1335 mw_reportedMinutes sw_reportedMinutes k_L_195 (hx z) rfl rfl (by simp [Value.category]) ⟨(by show _ ≤ 14; omega), (by show _ ≤ 518; omega)⟩ (by omega) (by omega) (fun v9 M9 hq => ?_) (fun E9 M9 hq => absurd hq.1 (fun w => nomatch w))
  obtain ⟨h9, hM⟩ := hq
  cases h9
  obtain ⟨z9, q9⟩ := M9
  cases hM
  refine j_istore K dL_law_1338 (by decide) ?_
  refine j_aload_n K 2 dL_law_1340 rfl rfl ?_
  refine j_aload_n K 0 dL_law_1341 rfl rfl ?_
  refine j_iload K dL_law_1342 rfl ?_
  refine j_iconst K 1 dL_law_1344 rfl ?_
  refine j_iadd K dL_law_1345 ?_
  refine j_sald K hX (i + 1) dL_law_1346 (jx_add (a := i) (b := 1) rfl rfl) (by omega) ?_
  refine j_aload_n K 0 dL_law_1347 rfl rfl ?_
  refine j_iload K dL_law_1348 rfl ?_
  refine j_iconst K 2 dL_law_1350 rfl ?_
  refine j_iadd K dL_law_1351 ?_
  refine j_sald K hX (i + 2) dL_law_1352 (jx_add (a := i) (b := 2) rfl rfl) (by omega) ?_
  refine j_callV K dL_law_1353 m_X6_reportedMinutes v_X6_reportedMinutes k_L_197 rfl ⟨by decide, rfl⟩ rfl (hm z9) rfl rfl (by simp [Value.category]) ⟨(by show _ ≤ 14; omega), (by show _ ≤ 518; omega)⟩ (Nat.zero_le _) (Nat.zero_le _) (fun v9 M9 hq => ?_) (fun E9 M9 hq => absurd hq.1 (fun w => nomatch w))
  obtain ⟨h9, rfl⟩ := hq
  cases h9
  refine j_istore K dL_law_1356 (by decide) ?_
  refine j_aload_n K 2 dL_law_1358 rfl rfl ?_
  refine j_callV K dL_law_1359 m_X6_thrown v_X6_thrown k_L_139 rfl ⟨by decide, rfl⟩ rfl c_M_thrown rfl rfl (by simp [Value.category]) ⟨(by show _ ≤ 14; decide), (by show _ ≤ 518; decide)⟩ (Nat.zero_le _) (Nat.zero_le _) (fun v9 M9 hq => ?_) (fun E9 M9 hq => absurd hq.1 (fun w => nomatch w))
  obtain ⟨h9, rfl⟩ := hq
  cases h9
  refine j_iload K dL_law_1362 rfl ?_
  refine j_icmp_eq K 1369 dL_law_1364 (by decide) (fun _ => ?_) (fun hne => absurd e0 hne)
  refine j_iload K dL_law_1369 rfl ?_
  refine j_if_ne K 1386 dL_law_1371 (by decide) (fun hk => ?_) (fun hk => ?_)
  · refine j_goto K 2611 dL_law_1386 (by decide) ?_
    exact jW_mono (kk z9 V2 T' _ _ hI b5) (by omega) (by omega)
  · refine j_aload_n K 3 dL_law_1374 rfl rfl ?_
    refine j_iconst K 0 dL_law_1375 rfl ?_
    refine jLald K 0 dL_law_1376 rfl rfl rfl (by decide) ?_
    refine j_iload K dL_law_1377 rfl ?_
    rw [e1 hk]
    refine j_i2l K dL_law_1379 ?_
    refine j_lcmp K dL_law_1380 ?_
    rw [lg_cmp_self]
    refine j_if_eq K 1386 dL_law_1381 (by decide) (fun _ => ?_) (fun hne => absurd rfl hne)
    refine j_goto K 2611 dL_law_1386 (by decide) ?_
    exact jW_mono (kk z9 V2 T' _ _ hI b5) (by omega) (by omega)
set_option maxRecDepth 20000 in
set_option maxHeartbeats 400000 in
theorem law_reportAge (K : jK p l room_1 s m args meth c D ca q0 sa RL cL_law 7 ret) (hN : jNc s) (hX : jX s q0 b L xs) (hi : i + 6 ≤ L) (C : Case l D ca q0 sa ad yL_reportAge cL_reportAge 5 hL_reportAge yX6_reportAge cX6_reportAge 3 (some .int) [.int (xs (i + 1)), .int (xs (i + 2))] T n V) (hkc : 1 ≤ kc) (hks : 6 ≤ ks) (kk : ∀ (z : Nat) (V : jV) (T' : Nat) (o5 o6 : Option Value), Inv T' n V V → T' ≤ T + 60 → jW p l e room_1 s m args below meth c D ca q0 ad 7 Q (kc - 1) (ks - 6) 2611 [some (.ref b), some (.ref (ad 0 0)), some (.ref (ad 20 0)), some (.ref (ad 60 0)), some (.int (nI i)), o5, o6] [] (jS z n V)) : jW p l e room_1 s m args below meth c D ca q0 ad 7 Q kc ks 1389 [some (.ref b), some (.ref (ad 0 0)), some (.ref (ad 20 0)), some (.ref (ad 60 0)), some (.int (nI i)), o5, o6] [] (jS z n V) := by
  obtain ⟨k, r, V1, V2, lx, lm, mc, ms, T', ⟨b1, b2, b3, b4, b5⟩, hx, hm, e0, e1, hI⟩ := C
  refine j_aload_n K 1 dL_law_1389 rfl rfl ?_
  refine j_aload_n K 0 dL_law_1390 rfl rfl ?_
  refine j_iload K dL_law_1391 rfl ?_
  refine j_iconst K 1 dL_law_1393 rfl ?_
  refine j_iadd K dL_law_1394 ?_
  refine j_sald K hX (i + 1) dL_law_1395 (jx_add (a := i) (b := 1) rfl rfl) (by omega) ?_
  refine j_aload_n K 0 dL_law_1396 rfl rfl ?_
  refine j_iload K dL_law_1397 rfl ?_
  refine j_iconst K 2 dL_law_1399 rfl ?_
  refine j_iadd K dL_law_1400 ?_
  refine j_sald K hX (i + 2) dL_law_1401 (jx_add (a := i) (b := 2) rfl rfl) (by omega) ?_
  refine j_aload_n K 3 dL_law_1402 rfl rfl ?_
  refine j_callSH K hN dL_law_1403 mw_reportAge sw_reportAge k_L_198 (hx z) rfl rfl (by simp [Value.category]) ⟨(by show _ ≤ 14; omega), (by show _ ≤ 518; omega)⟩ (by omega) (by omega) (fun v9 M9 hq => ?_) (fun E9 M9 hq => absurd hq.1 (fun w => nomatch w))
  obtain ⟨h9, hM⟩ := hq
  cases h9
  obtain ⟨z9, q9⟩ := M9
  cases hM
  refine j_istore K dL_law_1406 (by decide) ?_
  refine j_aload_n K 2 dL_law_1408 rfl rfl ?_
  refine j_aload_n K 0 dL_law_1409 rfl rfl ?_
  refine j_iload K dL_law_1410 rfl ?_
  refine j_iconst K 1 dL_law_1412 rfl ?_
  refine j_iadd K dL_law_1413 ?_
  refine j_sald K hX (i + 1) dL_law_1414 (jx_add (a := i) (b := 1) rfl rfl) (by omega) ?_
  refine j_aload_n K 0 dL_law_1415 rfl rfl ?_
  refine j_iload K dL_law_1416 rfl ?_
  refine j_iconst K 2 dL_law_1418 rfl ?_
  refine j_iadd K dL_law_1419 ?_
  refine j_sald K hX (i + 2) dL_law_1420 (jx_add (a := i) (b := 2) rfl rfl) (by omega) ?_
  refine j_callV K dL_law_1421 m_X6_reportAge v_X6_reportAge k_L_200 rfl ⟨by decide, rfl⟩ rfl (hm z9) rfl rfl (by simp [Value.category]) ⟨(by show _ ≤ 14; omega), (by show _ ≤ 518; omega)⟩ (Nat.zero_le _) (Nat.zero_le _) (fun v9 M9 hq => ?_) (fun E9 M9 hq => absurd hq.1 (fun w => nomatch w))
  obtain ⟨h9, rfl⟩ := hq
  cases h9
  refine j_istore K dL_law_1424 (by decide) ?_
  refine j_aload_n K 2 dL_law_1426 rfl rfl ?_
  refine j_callV K dL_law_1427 m_X6_thrown v_X6_thrown k_L_139 rfl ⟨by decide, rfl⟩ rfl c_M_thrown rfl rfl (by simp [Value.category]) ⟨(by show _ ≤ 14; decide), (by show _ ≤ 518; decide)⟩ (Nat.zero_le _) (Nat.zero_le _) (fun v9 M9 hq => ?_) (fun E9 M9 hq => absurd hq.1 (fun w => nomatch w))
  obtain ⟨h9, rfl⟩ := hq
  cases h9
  refine j_iload K dL_law_1430 rfl ?_
  refine j_icmp_eq K 1437 dL_law_1432 (by decide) (fun _ => ?_) (fun hne => absurd e0 hne)
  refine j_iload K dL_law_1437 rfl ?_
  refine j_if_ne K 1454 dL_law_1439 (by decide) (fun hk => ?_) (fun hk => ?_)
  · refine j_goto K 2611 dL_law_1454 (by decide) ?_
    exact jW_mono (kk z9 V2 T' _ _ hI b5) (by omega) (by omega)
  · refine j_aload_n K 3 dL_law_1442 rfl rfl ?_
    refine j_iconst K 0 dL_law_1443 rfl ?_
    refine jLald K 0 dL_law_1444 rfl rfl rfl (by decide) ?_
    refine j_iload K dL_law_1445 rfl ?_
    rw [e1 hk]
    refine j_i2l K dL_law_1447 ?_
    refine j_lcmp K dL_law_1448 ?_
    rw [lg_cmp_self]
    refine j_if_eq K 1454 dL_law_1449 (by decide) (fun _ => ?_) (fun hne => absurd rfl hne)
    refine j_goto K 2611 dL_law_1454 (by decide) ?_
    exact jW_mono (kk z9 V2 T' _ _ hI b5) (by omega) (by omega)
set_option maxRecDepth 20000 in
set_option maxHeartbeats 400000 in
theorem law_deliverTin (K : jK p l room_1 s m args meth c D ca q0 sa RL cL_law 7 ret) (hN : jNc s) (hX : jX s q0 b L xs) (hi : i + 6 ≤ L) (C : Case l D ca q0 sa ad yL_deliverTin cL_deliverTin 5 hL_deliverTin yX6_deliverTin cX6_deliverTin 3 (some .int) [.int (xs (i + 1)), .int (xs (i + 2))] T n V) (hkc : 1 ≤ kc) (hks : 6 ≤ ks) (kk : ∀ (z : Nat) (V : jV) (T' : Nat) (o5 o6 : Option Value), Inv T' n V V → T' ≤ T + 60 → jW p l e room_1 s m args below meth c D ca q0 ad 7 Q (kc - 1) (ks - 6) 2611 [some (.ref b), some (.ref (ad 0 0)), some (.ref (ad 20 0)), some (.ref (ad 60 0)), some (.int (nI i)), o5, o6] [] (jS z n V)) : jW p l e room_1 s m args below meth c D ca q0 ad 7 Q kc ks 1457 [some (.ref b), some (.ref (ad 0 0)), some (.ref (ad 20 0)), some (.ref (ad 60 0)), some (.int (nI i)), o5, o6] [] (jS z n V) := by
  obtain ⟨k, r, V1, V2, lx, lm, mc, ms, T', ⟨b1, b2, b3, b4, b5⟩, hx, hm, e0, e1, hI⟩ := C
  refine j_aload_n K 1 dL_law_1457 rfl rfl ?_
  refine j_aload_n K 0 dL_law_1458 rfl rfl ?_
  refine j_iload K dL_law_1459 rfl ?_
  refine j_iconst K 1 dL_law_1461 rfl ?_
  refine j_iadd K dL_law_1462 ?_
  refine j_sald K hX (i + 1) dL_law_1463 (jx_add (a := i) (b := 1) rfl rfl) (by omega) ?_
  refine j_aload_n K 0 dL_law_1464 rfl rfl ?_
  refine j_iload K dL_law_1465 rfl ?_
  refine j_iconst K 2 dL_law_1467 rfl ?_
  refine j_iadd K dL_law_1468 ?_
  refine j_sald K hX (i + 2) dL_law_1469 (jx_add (a := i) (b := 2) rfl rfl) (by omega) ?_
  refine j_aload_n K 3 dL_law_1470 rfl rfl ?_
  refine j_callSH K hN dL_law_1471 mw_deliverTin sw_deliverTin k_L_201 (hx z) rfl rfl (by simp [Value.category]) ⟨(by show _ ≤ 14; omega), (by show _ ≤ 518; omega)⟩ (by omega) (by omega) (fun v9 M9 hq => ?_) (fun E9 M9 hq => absurd hq.1 (fun w => nomatch w))
  obtain ⟨h9, hM⟩ := hq
  cases h9
  obtain ⟨z9, q9⟩ := M9
  cases hM
  refine j_istore K dL_law_1474 (by decide) ?_
  refine j_aload_n K 2 dL_law_1476 rfl rfl ?_
  refine j_aload_n K 0 dL_law_1477 rfl rfl ?_
  refine j_iload K dL_law_1478 rfl ?_
  refine j_iconst K 1 dL_law_1480 rfl ?_
  refine j_iadd K dL_law_1481 ?_
  refine j_sald K hX (i + 1) dL_law_1482 (jx_add (a := i) (b := 1) rfl rfl) (by omega) ?_
  refine j_aload_n K 0 dL_law_1483 rfl rfl ?_
  refine j_iload K dL_law_1484 rfl ?_
  refine j_iconst K 2 dL_law_1486 rfl ?_
  refine j_iadd K dL_law_1487 ?_
  refine j_sald K hX (i + 2) dL_law_1488 (jx_add (a := i) (b := 2) rfl rfl) (by omega) ?_
  refine j_callV K dL_law_1489 m_X6_deliverTin v_X6_deliverTin k_L_203 rfl ⟨by decide, rfl⟩ rfl (hm z9) rfl rfl (by simp [Value.category]) ⟨(by show _ ≤ 14; omega), (by show _ ≤ 518; omega)⟩ (Nat.zero_le _) (Nat.zero_le _) (fun v9 M9 hq => ?_) (fun E9 M9 hq => absurd hq.1 (fun w => nomatch w))
  obtain ⟨h9, rfl⟩ := hq
  cases h9
  refine j_istore K dL_law_1492 (by decide) ?_
  refine j_aload_n K 2 dL_law_1494 rfl rfl ?_
  refine j_callV K dL_law_1495 m_X6_thrown v_X6_thrown k_L_139 rfl ⟨by decide, rfl⟩ rfl c_M_thrown rfl rfl (by simp [Value.category]) ⟨(by show _ ≤ 14; decide), (by show _ ≤ 518; decide)⟩ (Nat.zero_le _) (Nat.zero_le _) (fun v9 M9 hq => ?_) (fun E9 M9 hq => absurd hq.1 (fun w => nomatch w))
  obtain ⟨h9, rfl⟩ := hq
  cases h9
  refine j_iload K dL_law_1498 rfl ?_
  refine j_icmp_eq K 1505 dL_law_1500 (by decide) (fun _ => ?_) (fun hne => absurd e0 hne)
  refine j_iload K dL_law_1505 rfl ?_
  refine j_if_ne K 1522 dL_law_1507 (by decide) (fun hk => ?_) (fun hk => ?_)
  · refine j_goto K 2611 dL_law_1522 (by decide) ?_
    exact jW_mono (kk z9 V2 T' _ _ hI b5) (by omega) (by omega)
  · refine j_aload_n K 3 dL_law_1510 rfl rfl ?_
    refine j_iconst K 0 dL_law_1511 rfl ?_
    refine jLald K 0 dL_law_1512 rfl rfl rfl (by decide) ?_
    refine j_iload K dL_law_1513 rfl ?_
    rw [e1 hk]
    refine j_i2l K dL_law_1515 ?_
    refine j_lcmp K dL_law_1516 ?_
    rw [lg_cmp_self]
    refine j_if_eq K 1522 dL_law_1517 (by decide) (fun _ => ?_) (fun hne => absurd rfl hne)
    refine j_goto K 2611 dL_law_1522 (by decide) ?_
    exact jW_mono (kk z9 V2 T' _ _ hI b5) (by omega) (by omega)
set_option maxRecDepth 20000 in
set_option maxHeartbeats 400000 in
theorem law_tinCount (K : jK p l room_1 s m args meth c D ca q0 sa RL cL_law 7 ret) (hN : jNc s) (hX : jX s q0 b L xs) (hi : i + 6 ≤ L) (C : Case l D ca q0 sa ad yL_tinCount cL_tinCount 4 hL_tinCount yX6_tinCount cX6_tinCount 2 (some .int) [.int (xs (i + 1))] T n V) (hkc : 1 ≤ kc) (hks : 6 ≤ ks) (kk : ∀ (z : Nat) (V : jV) (T' : Nat) (o5 o6 : Option Value), Inv T' n V V → T' ≤ T + 60 → jW p l e room_1 s m args below meth c D ca q0 ad 7 Q (kc - 1) (ks - 6) 2611 [some (.ref b), some (.ref (ad 0 0)), some (.ref (ad 20 0)), some (.ref (ad 60 0)), some (.int (nI i)), o5, o6] [] (jS z n V)) : jW p l e room_1 s m args below meth c D ca q0 ad 7 Q kc ks 1525 [some (.ref b), some (.ref (ad 0 0)), some (.ref (ad 20 0)), some (.ref (ad 60 0)), some (.int (nI i)), o5, o6] [] (jS z n V) := by
  obtain ⟨k, r, V1, V2, lx, lm, mc, ms, T', ⟨b1, b2, b3, b4, b5⟩, hx, hm, e0, e1, hI⟩ := C
  refine j_aload_n K 1 dL_law_1525 rfl rfl ?_
  refine j_aload_n K 0 dL_law_1526 rfl rfl ?_
  refine j_iload K dL_law_1527 rfl ?_
  refine j_iconst K 1 dL_law_1529 rfl ?_
  refine j_iadd K dL_law_1530 ?_
  refine j_sald K hX (i + 1) dL_law_1531 (jx_add (a := i) (b := 1) rfl rfl) (by omega) ?_
  refine j_aload_n K 3 dL_law_1532 rfl rfl ?_
  refine j_callSH K hN dL_law_1533 mw_tinCount sw_tinCount k_L_204 (hx z) rfl rfl (by simp [Value.category]) ⟨(by show _ ≤ 14; omega), (by show _ ≤ 518; omega)⟩ (by omega) (by omega) (fun v9 M9 hq => ?_) (fun E9 M9 hq => absurd hq.1 (fun w => nomatch w))
  obtain ⟨h9, hM⟩ := hq
  cases h9
  obtain ⟨z9, q9⟩ := M9
  cases hM
  refine j_istore K dL_law_1536 (by decide) ?_
  refine j_aload_n K 2 dL_law_1538 rfl rfl ?_
  refine j_aload_n K 0 dL_law_1539 rfl rfl ?_
  refine j_iload K dL_law_1540 rfl ?_
  refine j_iconst K 1 dL_law_1542 rfl ?_
  refine j_iadd K dL_law_1543 ?_
  refine j_sald K hX (i + 1) dL_law_1544 (jx_add (a := i) (b := 1) rfl rfl) (by omega) ?_
  refine j_callV K dL_law_1545 m_X6_tinCount v_X6_tinCount k_L_206 rfl ⟨by decide, rfl⟩ rfl (hm z9) rfl rfl (by simp [Value.category]) ⟨(by show _ ≤ 14; omega), (by show _ ≤ 518; omega)⟩ (Nat.zero_le _) (Nat.zero_le _) (fun v9 M9 hq => ?_) (fun E9 M9 hq => absurd hq.1 (fun w => nomatch w))
  obtain ⟨h9, rfl⟩ := hq
  cases h9
  refine j_istore K dL_law_1548 (by decide) ?_
  refine j_aload_n K 2 dL_law_1550 rfl rfl ?_
  refine j_callV K dL_law_1551 m_X6_thrown v_X6_thrown k_L_139 rfl ⟨by decide, rfl⟩ rfl c_M_thrown rfl rfl (by simp [Value.category]) ⟨(by show _ ≤ 14; decide), (by show _ ≤ 518; decide)⟩ (Nat.zero_le _) (Nat.zero_le _) (fun v9 M9 hq => ?_) (fun E9 M9 hq => absurd hq.1 (fun w => nomatch w))
  obtain ⟨h9, rfl⟩ := hq
  cases h9
  refine j_iload K dL_law_1554 rfl ?_
  refine j_icmp_eq K 1561 dL_law_1556 (by decide) (fun _ => ?_) (fun hne => absurd e0 hne)
  refine j_iload K dL_law_1561 rfl ?_
  refine j_if_ne K 1578 dL_law_1563 (by decide) (fun hk => ?_) (fun hk => ?_)
  · refine j_goto K 2611 dL_law_1578 (by decide) ?_
    exact jW_mono (kk z9 V2 T' _ _ hI b5) (by omega) (by omega)
  · refine j_aload_n K 3 dL_law_1566 rfl rfl ?_
    refine j_iconst K 0 dL_law_1567 rfl ?_
    refine jLald K 0 dL_law_1568 rfl rfl rfl (by decide) ?_
    refine j_iload K dL_law_1569 rfl ?_
    rw [e1 hk]
    refine j_i2l K dL_law_1571 ?_
    refine j_lcmp K dL_law_1572 ?_
    rw [lg_cmp_self]
    refine j_if_eq K 1578 dL_law_1573 (by decide) (fun _ => ?_) (fun hne => absurd rfl hne)
    refine j_goto K 2611 dL_law_1578 (by decide) ?_
    exact jW_mono (kk z9 V2 T' _ _ hI b5) (by omega) (by omega)
set_option maxRecDepth 20000 in
set_option maxHeartbeats 400000 in
theorem law_paintLeft (K : jK p l room_1 s m args meth c D ca q0 sa RL cL_law 7 ret) (hN : jNc s) (hX : jX s q0 b L xs) (hi : i + 6 ≤ L) (C : Case l D ca q0 sa ad yL_paintLeft cL_paintLeft 4 hL_paintLeft yX6_paintLeft cX6_paintLeft 4 (some .int) [.int (xs (i + 1))] T n V) (hkc : 1 ≤ kc) (hks : 6 ≤ ks) (kk : ∀ (z : Nat) (V : jV) (T' : Nat) (o5 o6 : Option Value), Inv T' n V V → T' ≤ T + 60 → jW p l e room_1 s m args below meth c D ca q0 ad 7 Q (kc - 1) (ks - 6) 2611 [some (.ref b), some (.ref (ad 0 0)), some (.ref (ad 20 0)), some (.ref (ad 60 0)), some (.int (nI i)), o5, o6] [] (jS z n V)) : jW p l e room_1 s m args below meth c D ca q0 ad 7 Q kc ks 1581 [some (.ref b), some (.ref (ad 0 0)), some (.ref (ad 20 0)), some (.ref (ad 60 0)), some (.int (nI i)), o5, o6] [] (jS z n V) := by
  obtain ⟨k, r, V1, V2, lx, lm, mc, ms, T', ⟨b1, b2, b3, b4, b5⟩, hx, hm, e0, e1, hI⟩ := C
  refine j_aload_n K 1 dL_law_1581 rfl rfl ?_
  refine j_aload_n K 0 dL_law_1582 rfl rfl ?_
  refine j_iload K dL_law_1583 rfl ?_
  refine j_iconst K 1 dL_law_1585 rfl ?_
  refine j_iadd K dL_law_1586 ?_
  refine j_sald K hX (i + 1) dL_law_1587 (jx_add (a := i) (b := 1) rfl rfl) (by omega) ?_
  refine j_aload_n K 3 dL_law_1588 rfl rfl ?_
  refine j_callSH K hN dL_law_1589 mw_paintLeft sw_paintLeft k_L_207 (hx z) rfl rfl (by simp [Value.category]) ⟨(by show _ ≤ 14; omega), (by show _ ≤ 518; omega)⟩ (by omega) (by omega) (fun v9 M9 hq => ?_) (fun E9 M9 hq => absurd hq.1 (fun w => nomatch w))
  obtain ⟨h9, hM⟩ := hq
  cases h9
  obtain ⟨z9, q9⟩ := M9
  cases hM
  refine j_istore K dL_law_1592 (by decide) ?_
  refine j_aload_n K 2 dL_law_1594 rfl rfl ?_
  refine j_aload_n K 0 dL_law_1595 rfl rfl ?_
  refine j_iload K dL_law_1596 rfl ?_
  refine j_iconst K 1 dL_law_1598 rfl ?_
  refine j_iadd K dL_law_1599 ?_
  refine j_sald K hX (i + 1) dL_law_1600 (jx_add (a := i) (b := 1) rfl rfl) (by omega) ?_
  refine j_callV K dL_law_1601 m_X6_paintLeft v_X6_paintLeft k_L_209 rfl ⟨by decide, rfl⟩ rfl (hm z9) rfl rfl (by simp [Value.category]) ⟨(by show _ ≤ 14; omega), (by show _ ≤ 518; omega)⟩ (Nat.zero_le _) (Nat.zero_le _) (fun v9 M9 hq => ?_) (fun E9 M9 hq => absurd hq.1 (fun w => nomatch w))
  obtain ⟨h9, rfl⟩ := hq
  cases h9
  refine j_istore K dL_law_1604 (by decide) ?_
  refine j_aload_n K 2 dL_law_1606 rfl rfl ?_
  refine j_callV K dL_law_1607 m_X6_thrown v_X6_thrown k_L_139 rfl ⟨by decide, rfl⟩ rfl c_M_thrown rfl rfl (by simp [Value.category]) ⟨(by show _ ≤ 14; decide), (by show _ ≤ 518; decide)⟩ (Nat.zero_le _) (Nat.zero_le _) (fun v9 M9 hq => ?_) (fun E9 M9 hq => absurd hq.1 (fun w => nomatch w))
  obtain ⟨h9, rfl⟩ := hq
  cases h9
  refine j_iload K dL_law_1610 rfl ?_
  refine j_icmp_eq K 1617 dL_law_1612 (by decide) (fun _ => ?_) (fun hne => absurd e0 hne)
  refine j_iload K dL_law_1617 rfl ?_
  refine j_if_ne K 1634 dL_law_1619 (by decide) (fun hk => ?_) (fun hk => ?_)
  · refine j_goto K 2611 dL_law_1634 (by decide) ?_
    exact jW_mono (kk z9 V2 T' _ _ hI b5) (by omega) (by omega)
  · refine j_aload_n K 3 dL_law_1622 rfl rfl ?_
    refine j_iconst K 0 dL_law_1623 rfl ?_
    refine jLald K 0 dL_law_1624 rfl rfl rfl (by decide) ?_
    refine j_iload K dL_law_1625 rfl ?_
    rw [e1 hk]
    refine j_i2l K dL_law_1627 ?_
    refine j_lcmp K dL_law_1628 ?_
    rw [lg_cmp_self]
    refine j_if_eq K 1634 dL_law_1629 (by decide) (fun _ => ?_) (fun hne => absurd rfl hne)
    refine j_goto K 2611 dL_law_1634 (by decide) ?_
    exact jW_mono (kk z9 V2 T' _ _ hI b5) (by omega) (by omega)
end W
