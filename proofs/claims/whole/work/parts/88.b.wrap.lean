set_option maxRecDepth 20000 in
set_option maxHeartbeats 400000 in
theorem wx_reportAge_2 {l : Launch} {D : va_G} {ca : Nat → ClassId} {q0 : Nat} {sa : Nat → Nat} {ad : jAd} {lvl mc ms z z2 : Nat} {Lv Lv2 : jLv} {V V2 : jV} {Rf Rf2 : jR} (p0 p1 : Int32) (hl0 : Lv 0 0 = true) (h : jMet l D ca q0 sa ad yX5_reportAge cX5_reportAge 4 (some .int) lvl mc ms [.ref (ad 0 0), .int p0, .int p1] (z, Lv, V, Rf) (jExc ns_C (z2, Lv2, V2, Rf2))) : jMetH l D ca q0 sa ad yL_reportAge cL_reportAge 5 (some .int) hL_reportAge (lvl + 1) mc ms [.ref (ad 0 0), .int p0, .int p1, .ref (ad 60 0)] (z, Lv, V, Rf) (fun o M9 => o = .inl (some (.int 2)) ∧ M9.2 = (Lv2, V2, Rf2)) := by
  refine j_enterH RL [some (.ref (ad 0 0)), some (.int p0), some (.int p1), some (.ref (ad 60 0)), none] rfl (by decide) (by simp [Value.category]) (Nat.le_of_ble_eq_true rfl) rfl ?_
  intro p e s m args below meth c K hN hT
  refine j_aload_n K 3 dL_reportAge_0 rfl rfl ?_
  refine j_iconst K 0 dL_reportAge_1 rfl ?_
  refine j_aload_n K 0 dL_reportAge_2 rfl rfl ?_
  refine j_iload_n K 1 dL_reportAge_3 rfl rfl ?_
  refine j_iload_n K 2 dL_reportAge_4 rfl rfl ?_
  refine j_callV K dL_reportAge_5 m_X5_reportAge v_X5_reportAge k_L_70 rfl ⟨by decide, rfl⟩ hl0 h rfl rfl (by simp [Value.category]) ⟨(by show _ ≤ 6 + (lvl + 1); omega), (by show _ ≤ 100 + 30 * (lvl + 1); omega)⟩ (Nat.le_refl _) (Nat.le_refl _) (fun v9 M9 hq => ?_) (fun E9 M9 hq => ?_)
  · exact absurd hq.1 (fun w => nomatch w)
  · obtain ⟨h9, hM⟩ := hq
    cases h9
    refine j_catch K hN [⟨0, 10, 13, 28⟩] [] ⟨0, 10, 17, 65⟩ (hT.trans rfl) xn_NS (fun z hz => by rw [List.mem_singleton.mp hz]; exact ⟨by decide, _, xn_IB, by decide +kernel, xl_IB⟩) (by decide) (by decide) xl_NS xc_NS (fun q => ?_)
    refine j_astore K dL_reportAge_17 (by decide) ?_
    refine j_iconst K 2 dL_reportAge_19 rfl ?_
    refine j_iret K dL_reportAge_20 ?_
    exact ⟨rfl, hM⟩
set_option maxRecDepth 20000 in
set_option maxHeartbeats 400000 in
theorem wr_deliverTin {l : Launch} {D : va_G} {ca : Nat → ClassId} {q0 : Nat} {sa : Nat → Nat} {ad : jAd} {lvl mc ms z z2 : Nat} {Lv Lv2 : jLv} {V V2 : jV} {Rf Rf2 : jR} (p0 p1 : Int32) (v : Int32) (hl0 : Lv 0 0 = true) (hl6 : Lv2 60 0 = true) (h : jMet l D ca q0 sa ad yX5_deliverTin cX5_deliverTin 4 (some .int) lvl mc ms [.ref (ad 0 0), .int p0, .int p1] (z, Lv, V, Rf) (jRet (some (.int v)) (z2, Lv2, V2, Rf2))) : jMetH l D ca q0 sa ad yL_deliverTin cL_deliverTin 5 (some .int) hL_deliverTin (lvl + 1) mc ms [.ref (ad 0 0), .int p0, .int p1, .ref (ad 60 0)] (z, Lv, V, Rf) (fun o M9 => o = .inl (some (.int 0)) ∧ M9.2 = (Lv2, up V2 60 0 0 v, Rf2)) := by
  refine j_enterH RL [some (.ref (ad 0 0)), some (.int p0), some (.int p1), some (.ref (ad 60 0)), none] rfl (by decide) (by simp [Value.category]) (Nat.le_of_ble_eq_true rfl) rfl ?_
  intro p e s m args below meth c K hN hT
  refine j_aload_n K 3 dL_deliverTin_0 rfl rfl ?_
  refine j_iconst K 0 dL_deliverTin_1 rfl ?_
  refine j_aload_n K 0 dL_deliverTin_2 rfl rfl ?_
  refine j_iload_n K 1 dL_deliverTin_3 rfl rfl ?_
  refine j_iload_n K 2 dL_deliverTin_4 rfl rfl ?_
  refine j_callV K dL_deliverTin_5 m_X5_deliverTin v_X5_deliverTin k_L_73 rfl ⟨by decide, rfl⟩ hl0 h rfl rfl (by simp [Value.category]) ⟨(by show _ ≤ 6 + (lvl + 1); omega), (by show _ ≤ 100 + 30 * (lvl + 1); omega)⟩ (Nat.le_refl _) (Nat.le_refl _) (fun v9 M9 hq => ?_) (fun E9 M9 hq => ?_)
  · obtain ⟨h9, rfl⟩ := hq
    cases h9
    refine j_i2l K dL_deliverTin_8 ?_
    refine jLast K 0 v dL_deliverTin_9 rfl hl6 rfl (by decide) rfl ?_
    refine j_goto K 21 dL_deliverTin_10 (by decide) ?_
    refine j_iconst K 0 dL_deliverTin_21 rfl ?_
    refine j_iret K dL_deliverTin_22 ?_
    exact ⟨rfl, rfl⟩
  · exact absurd hq.1 (fun w => nomatch w)
set_option maxRecDepth 20000 in
set_option maxHeartbeats 400000 in
theorem wx_deliverTin_1 {l : Launch} {D : va_G} {ca : Nat → ClassId} {q0 : Nat} {sa : Nat → Nat} {ad : jAd} {lvl mc ms z z2 : Nat} {Lv Lv2 : jLv} {V V2 : jV} {Rf Rf2 : jR} (p0 p1 : Int32) (hl0 : Lv 0 0 = true) (h : jMet l D ca q0 sa ad yX5_deliverTin cX5_deliverTin 4 (some .int) lvl mc ms [.ref (ad 0 0), .int p0, .int p1] (z, Lv, V, Rf) (jExc "java/lang/IllegalArgumentException" (z2, Lv2, V2, Rf2))) : jMetH l D ca q0 sa ad yL_deliverTin cL_deliverTin 5 (some .int) hL_deliverTin (lvl + 1) mc ms [.ref (ad 0 0), .int p0, .int p1, .ref (ad 60 0)] (z, Lv, V, Rf) (fun o M9 => o = .inl (some (.int 1)) ∧ M9.2 = (Lv2, V2, Rf2)) := by
  refine j_enterH RL [some (.ref (ad 0 0)), some (.int p0), some (.int p1), some (.ref (ad 60 0)), none] rfl (by decide) (by simp [Value.category]) (Nat.le_of_ble_eq_true rfl) rfl ?_
  intro p e s m args below meth c K hN hT
  refine j_aload_n K 3 dL_deliverTin_0 rfl rfl ?_
  refine j_iconst K 0 dL_deliverTin_1 rfl ?_
  refine j_aload_n K 0 dL_deliverTin_2 rfl rfl ?_
  refine j_iload_n K 1 dL_deliverTin_3 rfl rfl ?_
  refine j_iload_n K 2 dL_deliverTin_4 rfl rfl ?_
  refine j_callV K dL_deliverTin_5 m_X5_deliverTin v_X5_deliverTin k_L_73 rfl ⟨by decide, rfl⟩ hl0 h rfl rfl (by simp [Value.category]) ⟨(by show _ ≤ 6 + (lvl + 1); omega), (by show _ ≤ 100 + 30 * (lvl + 1); omega)⟩ (Nat.le_refl _) (Nat.le_refl _) (fun v9 M9 hq => ?_) (fun E9 M9 hq => ?_)
  · exact absurd hq.1 (fun w => nomatch w)
  · obtain ⟨h9, hM⟩ := hq
    cases h9
    refine j_catch K hN [] [⟨0, 10, 17, 15⟩] ⟨0, 10, 13, 13⟩ (hT.trans rfl) xn_IA (fun z hz => absurd hz List.not_mem_nil) (by decide) (by decide) xl_IA xc_IA (fun q => ?_)
    refine j_astore K dL_deliverTin_13 (by decide) ?_
    refine j_iconst K 1 dL_deliverTin_15 rfl ?_
    refine j_iret K dL_deliverTin_16 ?_
    exact ⟨rfl, hM⟩
set_option maxRecDepth 20000 in
set_option maxHeartbeats 400000 in
theorem wx_deliverTin_2 {l : Launch} {D : va_G} {ca : Nat → ClassId} {q0 : Nat} {sa : Nat → Nat} {ad : jAd} {lvl mc ms z z2 : Nat} {Lv Lv2 : jLv} {V V2 : jV} {Rf Rf2 : jR} (p0 p1 : Int32) (hl0 : Lv 0 0 = true) (h : jMet l D ca q0 sa ad yX5_deliverTin cX5_deliverTin 4 (some .int) lvl mc ms [.ref (ad 0 0), .int p0, .int p1] (z, Lv, V, Rf) (jExc "java/lang/IllegalStateException" (z2, Lv2, V2, Rf2))) : jMetH l D ca q0 sa ad yL_deliverTin cL_deliverTin 5 (some .int) hL_deliverTin (lvl + 1) mc ms [.ref (ad 0 0), .int p0, .int p1, .ref (ad 60 0)] (z, Lv, V, Rf) (fun o M9 => o = .inl (some (.int 2)) ∧ M9.2 = (Lv2, V2, Rf2)) := by
  refine j_enterH RL [some (.ref (ad 0 0)), some (.int p0), some (.int p1), some (.ref (ad 60 0)), none] rfl (by decide) (by simp [Value.category]) (Nat.le_of_ble_eq_true rfl) rfl ?_
  intro p e s m args below meth c K hN hT
  refine j_aload_n K 3 dL_deliverTin_0 rfl rfl ?_
  refine j_iconst K 0 dL_deliverTin_1 rfl ?_
  refine j_aload_n K 0 dL_deliverTin_2 rfl rfl ?_
  refine j_iload_n K 1 dL_deliverTin_3 rfl rfl ?_
  refine j_iload_n K 2 dL_deliverTin_4 rfl rfl ?_
  refine j_callV K dL_deliverTin_5 m_X5_deliverTin v_X5_deliverTin k_L_73 rfl ⟨by decide, rfl⟩ hl0 h rfl rfl (by simp [Value.category]) ⟨(by show _ ≤ 6 + (lvl + 1); omega), (by show _ ≤ 100 + 30 * (lvl + 1); omega)⟩ (Nat.le_refl _) (Nat.le_refl _) (fun v9 M9 hq => ?_) (fun E9 M9 hq => ?_)
  · exact absurd hq.1 (fun w => nomatch w)
  · obtain ⟨h9, hM⟩ := hq
    cases h9
    refine j_catch K hN [⟨0, 10, 13, 13⟩] [] ⟨0, 10, 17, 15⟩ (hT.trans rfl) xn_IS (fun z hz => by rw [List.mem_singleton.mp hz]; exact ⟨by decide, _, xn_IA, by decide +kernel, xl_IA⟩) (by decide) (by decide) xl_IS xc_IS (fun q => ?_)
    refine j_astore K dL_deliverTin_17 (by decide) ?_
    refine j_iconst K 2 dL_deliverTin_19 rfl ?_
    refine j_iret K dL_deliverTin_20 ?_
    exact ⟨rfl, hM⟩
set_option maxRecDepth 20000 in
set_option maxHeartbeats 400000 in
theorem wr_tinCount {l : Launch} {D : va_G} {ca : Nat → ClassId} {q0 : Nat} {sa : Nat → Nat} {ad : jAd} {lvl mc ms z z2 : Nat} {Lv Lv2 : jLv} {V V2 : jV} {Rf Rf2 : jR} (p0 : Int32) (v : Int32) (hl0 : Lv 0 0 = true) (hl6 : Lv2 60 0 = true) (h : jMet l D ca q0 sa ad yX5_tinCount cX5_tinCount 2 (some .int) lvl mc ms [.ref (ad 0 0), .int p0] (z, Lv, V, Rf) (jRet (some (.int v)) (z2, Lv2, V2, Rf2))) : jMetH l D ca q0 sa ad yL_tinCount cL_tinCount 4 (some .int) hL_tinCount (lvl + 1) mc ms [.ref (ad 0 0), .int p0, .ref (ad 60 0)] (z, Lv, V, Rf) (fun o M9 => o = .inl (some (.int 0)) ∧ M9.2 = (Lv2, up V2 60 0 0 v, Rf2)) := by
  refine j_enterH RL [some (.ref (ad 0 0)), some (.int p0), some (.ref (ad 60 0)), none] rfl (by decide) (by simp [Value.category]) (Nat.le_of_ble_eq_true rfl) rfl ?_
  intro p e s m args below meth c K hN hT
  refine j_aload_n K 2 dL_tinCount_0 rfl rfl ?_
  refine j_iconst K 0 dL_tinCount_1 rfl ?_
  refine j_aload_n K 0 dL_tinCount_2 rfl rfl ?_
  refine j_iload_n K 1 dL_tinCount_3 rfl rfl ?_
  refine j_callV K dL_tinCount_4 m_X5_tinCount v_X5_tinCount k_L_76 rfl ⟨by decide, rfl⟩ hl0 h rfl rfl (by simp [Value.category]) ⟨(by show _ ≤ 6 + (lvl + 1); omega), (by show _ ≤ 100 + 30 * (lvl + 1); omega)⟩ (Nat.le_refl _) (Nat.le_refl _) (fun v9 M9 hq => ?_) (fun E9 M9 hq => ?_)
  · obtain ⟨h9, rfl⟩ := hq
    cases h9
    refine j_i2l K dL_tinCount_7 ?_
    refine jLast K 0 v dL_tinCount_8 rfl hl6 rfl (by decide) rfl ?_
    refine j_goto K 15 dL_tinCount_9 (by decide) ?_
    refine j_iconst K 0 dL_tinCount_15 rfl ?_
    refine j_iret K dL_tinCount_16 ?_
    exact ⟨rfl, rfl⟩
  · exact absurd hq.1 (fun w => nomatch w)
set_option maxRecDepth 20000 in
set_option maxHeartbeats 400000 in
theorem wx_tinCount_1 {l : Launch} {D : va_G} {ca : Nat → ClassId} {q0 : Nat} {sa : Nat → Nat} {ad : jAd} {lvl mc ms z z2 : Nat} {Lv Lv2 : jLv} {V V2 : jV} {Rf Rf2 : jR} (p0 : Int32) (hl0 : Lv 0 0 = true) (h : jMet l D ca q0 sa ad yX5_tinCount cX5_tinCount 2 (some .int) lvl mc ms [.ref (ad 0 0), .int p0] (z, Lv, V, Rf) (jExc "java/lang/IllegalArgumentException" (z2, Lv2, V2, Rf2))) : jMetH l D ca q0 sa ad yL_tinCount cL_tinCount 4 (some .int) hL_tinCount (lvl + 1) mc ms [.ref (ad 0 0), .int p0, .ref (ad 60 0)] (z, Lv, V, Rf) (fun o M9 => o = .inl (some (.int 1)) ∧ M9.2 = (Lv2, V2, Rf2)) := by
  refine j_enterH RL [some (.ref (ad 0 0)), some (.int p0), some (.ref (ad 60 0)), none] rfl (by decide) (by simp [Value.category]) (Nat.le_of_ble_eq_true rfl) rfl ?_
  intro p e s m args below meth c K hN hT
  refine j_aload_n K 2 dL_tinCount_0 rfl rfl ?_
  refine j_iconst K 0 dL_tinCount_1 rfl ?_
  refine j_aload_n K 0 dL_tinCount_2 rfl rfl ?_
  refine j_iload_n K 1 dL_tinCount_3 rfl rfl ?_
  refine j_callV K dL_tinCount_4 m_X5_tinCount v_X5_tinCount k_L_76 rfl ⟨by decide, rfl⟩ hl0 h rfl rfl (by simp [Value.category]) ⟨(by show _ ≤ 6 + (lvl + 1); omega), (by show _ ≤ 100 + 30 * (lvl + 1); omega)⟩ (Nat.le_refl _) (Nat.le_refl _) (fun v9 M9 hq => ?_) (fun E9 M9 hq => ?_)
  · exact absurd hq.1 (fun w => nomatch w)
  · obtain ⟨h9, hM⟩ := hq
    cases h9
    refine j_catch K hN [] [] ⟨0, 9, 12, 13⟩ (hT.trans rfl) xn_IA (fun z hz => absurd hz List.not_mem_nil) (by decide) (by decide) xl_IA xc_IA (fun q => ?_)
    refine j_astore_n K 3 dL_tinCount_12 rfl (by decide) ?_
    refine j_iconst K 1 dL_tinCount_13 rfl ?_
    refine j_iret K dL_tinCount_14 ?_
    exact ⟨rfl, hM⟩
set_option maxRecDepth 20000 in
set_option maxHeartbeats 400000 in
theorem wr_paintLeft {l : Launch} {D : va_G} {ca : Nat → ClassId} {q0 : Nat} {sa : Nat → Nat} {ad : jAd} {lvl mc ms z z2 : Nat} {Lv Lv2 : jLv} {V V2 : jV} {Rf Rf2 : jR} (p0 : Int32) (v : Int32) (hl0 : Lv 0 0 = true) (hl6 : Lv2 60 0 = true) (h : jMet l D ca q0 sa ad yX5_paintLeft cX5_paintLeft 3 (some .int) lvl mc ms [.ref (ad 0 0), .int p0] (z, Lv, V, Rf) (jRet (some (.int v)) (z2, Lv2, V2, Rf2))) : jMetH l D ca q0 sa ad yL_paintLeft cL_paintLeft 4 (some .int) hL_paintLeft (lvl + 1) mc ms [.ref (ad 0 0), .int p0, .ref (ad 60 0)] (z, Lv, V, Rf) (fun o M9 => o = .inl (some (.int 0)) ∧ M9.2 = (Lv2, up V2 60 0 0 v, Rf2)) := by
  refine j_enterH RL [some (.ref (ad 0 0)), some (.int p0), some (.ref (ad 60 0)), none] rfl (by decide) (by simp [Value.category]) (Nat.le_of_ble_eq_true rfl) rfl ?_
  intro p e s m args below meth c K hN hT
  refine j_aload_n K 2 dL_paintLeft_0 rfl rfl ?_
  refine j_iconst K 0 dL_paintLeft_1 rfl ?_
  refine j_aload_n K 0 dL_paintLeft_2 rfl rfl ?_
  refine j_iload_n K 1 dL_paintLeft_3 rfl rfl ?_
  refine j_callV K dL_paintLeft_4 m_X5_paintLeft v_X5_paintLeft k_L_79 rfl ⟨by decide, rfl⟩ hl0 h rfl rfl (by simp [Value.category]) ⟨(by show _ ≤ 6 + (lvl + 1); omega), (by show _ ≤ 100 + 30 * (lvl + 1); omega)⟩ (Nat.le_refl _) (Nat.le_refl _) (fun v9 M9 hq => ?_) (fun E9 M9 hq => ?_)
  · obtain ⟨h9, rfl⟩ := hq
    cases h9
    refine j_i2l K dL_paintLeft_7 ?_
    refine jLast K 0 v dL_paintLeft_8 rfl hl6 rfl (by decide) rfl ?_
    refine j_goto K 15 dL_paintLeft_9 (by decide) ?_
    refine j_iconst K 0 dL_paintLeft_15 rfl ?_
    refine j_iret K dL_paintLeft_16 ?_
    exact ⟨rfl, rfl⟩
  · exact absurd hq.1 (fun w => nomatch w)
set_option maxRecDepth 20000 in
set_option maxHeartbeats 400000 in
theorem wx_paintLeft_1 {l : Launch} {D : va_G} {ca : Nat → ClassId} {q0 : Nat} {sa : Nat → Nat} {ad : jAd} {lvl mc ms z z2 : Nat} {Lv Lv2 : jLv} {V V2 : jV} {Rf Rf2 : jR} (p0 : Int32) (hl0 : Lv 0 0 = true) (h : jMet l D ca q0 sa ad yX5_paintLeft cX5_paintLeft 3 (some .int) lvl mc ms [.ref (ad 0 0), .int p0] (z, Lv, V, Rf) (jExc "java/lang/IllegalArgumentException" (z2, Lv2, V2, Rf2))) : jMetH l D ca q0 sa ad yL_paintLeft cL_paintLeft 4 (some .int) hL_paintLeft (lvl + 1) mc ms [.ref (ad 0 0), .int p0, .ref (ad 60 0)] (z, Lv, V, Rf) (fun o M9 => o = .inl (some (.int 1)) ∧ M9.2 = (Lv2, V2, Rf2)) := by
  refine j_enterH RL [some (.ref (ad 0 0)), some (.int p0), some (.ref (ad 60 0)), none] rfl (by decide) (by simp [Value.category]) (Nat.le_of_ble_eq_true rfl) rfl ?_
  intro p e s m args below meth c K hN hT
  refine j_aload_n K 2 dL_paintLeft_0 rfl rfl ?_
  refine j_iconst K 0 dL_paintLeft_1 rfl ?_
  refine j_aload_n K 0 dL_paintLeft_2 rfl rfl ?_
  refine j_iload_n K 1 dL_paintLeft_3 rfl rfl ?_
  refine j_callV K dL_paintLeft_4 m_X5_paintLeft v_X5_paintLeft k_L_79 rfl ⟨by decide, rfl⟩ hl0 h rfl rfl (by simp [Value.category]) ⟨(by show _ ≤ 6 + (lvl + 1); omega), (by show _ ≤ 100 + 30 * (lvl + 1); omega)⟩ (Nat.le_refl _) (Nat.le_refl _) (fun v9 M9 hq => ?_) (fun E9 M9 hq => ?_)
  · exact absurd hq.1 (fun w => nomatch w)
  · obtain ⟨h9, hM⟩ := hq
    cases h9
    refine j_catch K hN [] [] ⟨0, 9, 12, 13⟩ (hT.trans rfl) xn_IA (fun z hz => absurd hz List.not_mem_nil) (by decide) (by decide) xl_IA xc_IA (fun q => ?_)
    refine j_astore_n K 3 dL_paintLeft_12 rfl (by decide) ?_
    refine j_iconst K 1 dL_paintLeft_13 rfl ?_
    refine j_iret K dL_paintLeft_14 ?_
    exact ⟨rfl, hM⟩
set_option maxRecDepth 20000 in
set_option maxHeartbeats 400000 in
theorem wr_oldestTin {l : Launch} {D : va_G} {ca : Nat → ClassId} {q0 : Nat} {sa : Nat → Nat} {ad : jAd} {lvl mc ms z z2 : Nat} {Lv Lv2 : jLv} {V V2 : jV} {Rf Rf2 : jR} (p0 : Int32) (v : Int32) (hl0 : Lv 0 0 = true) (hl6 : Lv2 60 0 = true) (h : jMet l D ca q0 sa ad yX5_oldestTin cX5_oldestTin 3 (some .int) lvl mc ms [.ref (ad 0 0), .int p0] (z, Lv, V, Rf) (jRet (some (.int v)) (z2, Lv2, V2, Rf2))) : jMetH l D ca q0 sa ad yL_oldestTin cL_oldestTin 4 (some .int) hL_oldestTin (lvl + 1) mc ms [.ref (ad 0 0), .int p0, .ref (ad 60 0)] (z, Lv, V, Rf) (fun o M9 => o = .inl (some (.int 0)) ∧ M9.2 = (Lv2, up V2 60 0 0 v, Rf2)) := by
  refine j_enterH RL [some (.ref (ad 0 0)), some (.int p0), some (.ref (ad 60 0)), none] rfl (by decide) (by simp [Value.category]) (Nat.le_of_ble_eq_true rfl) rfl ?_
  intro p e s m args below meth c K hN hT
  refine j_aload_n K 2 dL_oldestTin_0 rfl rfl ?_
  refine j_iconst K 0 dL_oldestTin_1 rfl ?_
  refine j_aload_n K 0 dL_oldestTin_2 rfl rfl ?_
  refine j_iload_n K 1 dL_oldestTin_3 rfl rfl ?_
  refine j_callV K dL_oldestTin_4 m_X5_oldestTin v_X5_oldestTin k_L_82 rfl ⟨by decide, rfl⟩ hl0 h rfl rfl (by simp [Value.category]) ⟨(by show _ ≤ 6 + (lvl + 1); omega), (by show _ ≤ 100 + 30 * (lvl + 1); omega)⟩ (Nat.le_refl _) (Nat.le_refl _) (fun v9 M9 hq => ?_) (fun E9 M9 hq => ?_)
  · obtain ⟨h9, rfl⟩ := hq
    cases h9
    refine j_i2l K dL_oldestTin_7 ?_
    refine jLast K 0 v dL_oldestTin_8 rfl hl6 rfl (by decide) rfl ?_
    refine j_goto K 18 dL_oldestTin_9 (by decide) ?_
    refine j_iconst K 0 dL_oldestTin_18 rfl ?_
    refine j_iret K dL_oldestTin_19 ?_
    exact ⟨rfl, rfl⟩
  · exact absurd hq.1 (fun w => nomatch w)
set_option maxRecDepth 20000 in
set_option maxHeartbeats 400000 in
theorem wx_oldestTin_1 {l : Launch} {D : va_G} {ca : Nat → ClassId} {q0 : Nat} {sa : Nat → Nat} {ad : jAd} {lvl mc ms z z2 : Nat} {Lv Lv2 : jLv} {V V2 : jV} {Rf Rf2 : jR} (p0 : Int32) (hl0 : Lv 0 0 = true) (h : jMet l D ca q0 sa ad yX5_oldestTin cX5_oldestTin 3 (some .int) lvl mc ms [.ref (ad 0 0), .int p0] (z, Lv, V, Rf) (jExc "java/lang/IllegalArgumentException" (z2, Lv2, V2, Rf2))) : jMetH l D ca q0 sa ad yL_oldestTin cL_oldestTin 4 (some .int) hL_oldestTin (lvl + 1) mc ms [.ref (ad 0 0), .int p0, .ref (ad 60 0)] (z, Lv, V, Rf) (fun o M9 => o = .inl (some (.int 1)) ∧ M9.2 = (Lv2, V2, Rf2)) := by
  refine j_enterH RL [some (.ref (ad 0 0)), some (.int p0), some (.ref (ad 60 0)), none] rfl (by decide) (by simp [Value.category]) (Nat.le_of_ble_eq_true rfl) rfl ?_
  intro p e s m args below meth c K hN hT
  refine j_aload_n K 2 dL_oldestTin_0 rfl rfl ?_
  refine j_iconst K 0 dL_oldestTin_1 rfl ?_
  refine j_aload_n K 0 dL_oldestTin_2 rfl rfl ?_
  refine j_iload_n K 1 dL_oldestTin_3 rfl rfl ?_
  refine j_callV K dL_oldestTin_4 m_X5_oldestTin v_X5_oldestTin k_L_82 rfl ⟨by decide, rfl⟩ hl0 h rfl rfl (by simp [Value.category]) ⟨(by show _ ≤ 6 + (lvl + 1); omega), (by show _ ≤ 100 + 30 * (lvl + 1); omega)⟩ (Nat.le_refl _) (Nat.le_refl _) (fun v9 M9 hq => ?_) (fun E9 M9 hq => ?_)
  · exact absurd hq.1 (fun w => nomatch w)
  · obtain ⟨h9, hM⟩ := hq
    cases h9
    refine j_catch K hN [] [⟨0, 9, 15, 65⟩] ⟨0, 9, 12, 13⟩ (hT.trans rfl) xn_IA (fun z hz => absurd hz List.not_mem_nil) (by decide) (by decide) xl_IA xc_IA (fun q => ?_)
    refine j_astore_n K 3 dL_oldestTin_12 rfl (by decide) ?_
    refine j_iconst K 1 dL_oldestTin_13 rfl ?_
    refine j_iret K dL_oldestTin_14 ?_
    exact ⟨rfl, hM⟩
set_option maxRecDepth 20000 in
set_option maxHeartbeats 400000 in
theorem wx_oldestTin_2 {l : Launch} {D : va_G} {ca : Nat → ClassId} {q0 : Nat} {sa : Nat → Nat} {ad : jAd} {lvl mc ms z z2 : Nat} {Lv Lv2 : jLv} {V V2 : jV} {Rf Rf2 : jR} (p0 : Int32) (hl0 : Lv 0 0 = true) (h : jMet l D ca q0 sa ad yX5_oldestTin cX5_oldestTin 3 (some .int) lvl mc ms [.ref (ad 0 0), .int p0] (z, Lv, V, Rf) (jExc ns_C (z2, Lv2, V2, Rf2))) : jMetH l D ca q0 sa ad yL_oldestTin cL_oldestTin 4 (some .int) hL_oldestTin (lvl + 1) mc ms [.ref (ad 0 0), .int p0, .ref (ad 60 0)] (z, Lv, V, Rf) (fun o M9 => o = .inl (some (.int 2)) ∧ M9.2 = (Lv2, V2, Rf2)) := by
  refine j_enterH RL [some (.ref (ad 0 0)), some (.int p0), some (.ref (ad 60 0)), none] rfl (by decide) (by simp [Value.category]) (Nat.le_of_ble_eq_true rfl) rfl ?_
  intro p e s m args below meth c K hN hT
  refine j_aload_n K 2 dL_oldestTin_0 rfl rfl ?_
  refine j_iconst K 0 dL_oldestTin_1 rfl ?_
  refine j_aload_n K 0 dL_oldestTin_2 rfl rfl ?_
  refine j_iload_n K 1 dL_oldestTin_3 rfl rfl ?_
  refine j_callV K dL_oldestTin_4 m_X5_oldestTin v_X5_oldestTin k_L_82 rfl ⟨by decide, rfl⟩ hl0 h rfl rfl (by simp [Value.category]) ⟨(by show _ ≤ 6 + (lvl + 1); omega), (by show _ ≤ 100 + 30 * (lvl + 1); omega)⟩ (Nat.le_refl _) (Nat.le_refl _) (fun v9 M9 hq => ?_) (fun E9 M9 hq => ?_)
  · exact absurd hq.1 (fun w => nomatch w)
  · obtain ⟨h9, hM⟩ := hq
    cases h9
    refine j_catch K hN [⟨0, 9, 12, 13⟩] [] ⟨0, 9, 15, 65⟩ (hT.trans rfl) xn_NS (fun z hz => by rw [List.mem_singleton.mp hz]; exact ⟨by decide, _, xn_IA, by decide +kernel, xl_IA⟩) (by decide) (by decide) xl_NS xc_NS (fun q => ?_)
    refine j_astore_n K 3 dL_oldestTin_15 rfl (by decide) ?_
    refine j_iconst K 2 dL_oldestTin_16 rfl ?_
    refine j_iret K dL_oldestTin_17 ?_
    exact ⟨rfl, hM⟩
set_option maxRecDepth 20000 in
set_option maxHeartbeats 400000 in
theorem wr_order {l : Launch} {D : va_G} {ca : Nat → ClassId} {q0 : Nat} {sa : Nat → Nat} {ad : jAd} {lvl mc ms z z2 : Nat} {Lv Lv2 : jLv} {V V2 : jV} {Rf Rf2 : jR} (p0 p1 : Int32) (v : Int32) (hl0 : Lv 0 0 = true) (hl6 : Lv2 60 0 = true) (h : jMet l D ca q0 sa ad yX5_order cX5_order 3 (some .int) lvl mc ms [.ref (ad 0 0), .int p0, .int p1] (z, Lv, V, Rf) (jRet (some (.int v)) (z2, Lv2, V2, Rf2))) : jMetH l D ca q0 sa ad yL_order cL_order 5 (some .int) hL_order (lvl + 1) mc ms [.ref (ad 0 0), .int p0, .int p1, .ref (ad 60 0)] (z, Lv, V, Rf) (fun o M9 => o = .inl (some (.int 0)) ∧ M9.2 = (Lv2, up V2 60 0 0 v, Rf2)) := by
  refine j_enterH RL [some (.ref (ad 0 0)), some (.int p0), some (.int p1), some (.ref (ad 60 0)), none] rfl (by decide) (by simp [Value.category]) (Nat.le_of_ble_eq_true rfl) rfl ?_
  intro p e s m args below meth c K hN hT
  refine j_aload_n K 3 dL_order_0 rfl rfl ?_
  refine j_iconst K 0 dL_order_1 rfl ?_
  refine j_aload_n K 0 dL_order_2 rfl rfl ?_
  refine j_iload_n K 1 dL_order_3 rfl rfl ?_
  refine j_iload_n K 2 dL_order_4 rfl rfl ?_
  refine j_callV K dL_order_5 m_X5_order v_X5_order k_L_85 rfl ⟨by decide, rfl⟩ hl0 h rfl rfl (by simp [Value.category]) ⟨(by show _ ≤ 6 + (lvl + 1); omega), (by show _ ≤ 100 + 30 * (lvl + 1); omega)⟩ (Nat.le_refl _) (Nat.le_refl _) (fun v9 M9 hq => ?_) (fun E9 M9 hq => ?_)
  · obtain ⟨h9, rfl⟩ := hq
    cases h9
    refine j_i2l K dL_order_8 ?_
    refine jLast K 0 v dL_order_9 rfl hl6 rfl (by decide) rfl ?_
    refine j_goto K 25 dL_order_10 (by decide) ?_
    refine j_iconst K 0 dL_order_25 rfl ?_
    refine j_iret K dL_order_26 ?_
    exact ⟨rfl, rfl⟩
  · exact absurd hq.1 (fun w => nomatch w)
set_option maxRecDepth 20000 in
set_option maxHeartbeats 400000 in
theorem wx_order_1 {l : Launch} {D : va_G} {ca : Nat → ClassId} {q0 : Nat} {sa : Nat → Nat} {ad : jAd} {lvl mc ms z z2 : Nat} {Lv Lv2 : jLv} {V V2 : jV} {Rf Rf2 : jR} (p0 p1 : Int32) (hl0 : Lv 0 0 = true) (h : jMet l D ca q0 sa ad yX5_order cX5_order 3 (some .int) lvl mc ms [.ref (ad 0 0), .int p0, .int p1] (z, Lv, V, Rf) (jExc "java/lang/IndexOutOfBoundsException" (z2, Lv2, V2, Rf2))) : jMetH l D ca q0 sa ad yL_order cL_order 5 (some .int) hL_order (lvl + 1) mc ms [.ref (ad 0 0), .int p0, .int p1, .ref (ad 60 0)] (z, Lv, V, Rf) (fun o M9 => o = .inl (some (.int 1)) ∧ M9.2 = (Lv2, V2, Rf2)) := by
  refine j_enterH RL [some (.ref (ad 0 0)), some (.int p0), some (.int p1), some (.ref (ad 60 0)), none] rfl (by decide) (by simp [Value.category]) (Nat.le_of_ble_eq_true rfl) rfl ?_
  intro p e s m args below meth c K hN hT
  refine j_aload_n K 3 dL_order_0 rfl rfl ?_
  refine j_iconst K 0 dL_order_1 rfl ?_
  refine j_aload_n K 0 dL_order_2 rfl rfl ?_
  refine j_iload_n K 1 dL_order_3 rfl rfl ?_
  refine j_iload_n K 2 dL_order_4 rfl rfl ?_
  refine j_callV K dL_order_5 m_X5_order v_X5_order k_L_85 rfl ⟨by decide, rfl⟩ hl0 h rfl rfl (by simp [Value.category]) ⟨(by show _ ≤ 6 + (lvl + 1); omega), (by show _ ≤ 100 + 30 * (lvl + 1); omega)⟩ (Nat.le_refl _) (Nat.le_refl _) (fun v9 M9 hq => ?_) (fun E9 M9 hq => ?_)
  · exact absurd hq.1 (fun w => nomatch w)
  · obtain ⟨h9, hM⟩ := hq
    cases h9
    refine j_catch K hN [] [⟨0, 10, 17, 13⟩, ⟨0, 10, 21, 15⟩] ⟨0, 10, 13, 28⟩ (hT.trans rfl) xn_IB (fun z hz => absurd hz List.not_mem_nil) (by decide) (by decide) xl_IB xc_IB (fun q => ?_)
    refine j_astore K dL_order_13 (by decide) ?_
    refine j_iconst K 1 dL_order_15 rfl ?_
    refine j_iret K dL_order_16 ?_
    exact ⟨rfl, hM⟩
set_option maxRecDepth 20000 in
set_option maxHeartbeats 400000 in
theorem wx_order_2 {l : Launch} {D : va_G} {ca : Nat → ClassId} {q0 : Nat} {sa : Nat → Nat} {ad : jAd} {lvl mc ms z z2 : Nat} {Lv Lv2 : jLv} {V V2 : jV} {Rf Rf2 : jR} (p0 p1 : Int32) (hl0 : Lv 0 0 = true) (h : jMet l D ca q0 sa ad yX5_order cX5_order 3 (some .int) lvl mc ms [.ref (ad 0 0), .int p0, .int p1] (z, Lv, V, Rf) (jExc "java/lang/IllegalArgumentException" (z2, Lv2, V2, Rf2))) : jMetH l D ca q0 sa ad yL_order cL_order 5 (some .int) hL_order (lvl + 1) mc ms [.ref (ad 0 0), .int p0, .int p1, .ref (ad 60 0)] (z, Lv, V, Rf) (fun o M9 => o = .inl (some (.int 2)) ∧ M9.2 = (Lv2, V2, Rf2)) := by
  refine j_enterH RL [some (.ref (ad 0 0)), some (.int p0), some (.int p1), some (.ref (ad 60 0)), none] rfl (by decide) (by simp [Value.category]) (Nat.le_of_ble_eq_true rfl) rfl ?_
  intro p e s m args below meth c K hN hT
  refine j_aload_n K 3 dL_order_0 rfl rfl ?_
  refine j_iconst K 0 dL_order_1 rfl ?_
  refine j_aload_n K 0 dL_order_2 rfl rfl ?_
  refine j_iload_n K 1 dL_order_3 rfl rfl ?_
  refine j_iload_n K 2 dL_order_4 rfl rfl ?_
  refine j_callV K dL_order_5 m_X5_order v_X5_order k_L_85 rfl ⟨by decide, rfl⟩ hl0 h rfl rfl (by simp [Value.category]) ⟨(by show _ ≤ 6 + (lvl + 1); omega), (by show _ ≤ 100 + 30 * (lvl + 1); omega)⟩ (Nat.le_refl _) (Nat.le_refl _) (fun v9 M9 hq => ?_) (fun E9 M9 hq => ?_)
  · exact absurd hq.1 (fun w => nomatch w)
  · obtain ⟨h9, hM⟩ := hq
    cases h9
    refine j_catch K hN [⟨0, 10, 13, 28⟩] [⟨0, 10, 21, 15⟩] ⟨0, 10, 17, 13⟩ (hT.trans rfl) xn_IA (fun z hz => by rw [List.mem_singleton.mp hz]; exact ⟨by decide, _, xn_IB, by decide +kernel, xl_IB⟩) (by decide) (by decide) xl_IA xc_IA (fun q => ?_)
    refine j_astore K dL_order_17 (by decide) ?_
    refine j_iconst K 2 dL_order_19 rfl ?_
    refine j_iret K dL_order_20 ?_
    exact ⟨rfl, hM⟩
set_option maxRecDepth 20000 in
set_option maxHeartbeats 400000 in
theorem wx_order_3 {l : Launch} {D : va_G} {ca : Nat → ClassId} {q0 : Nat} {sa : Nat → Nat} {ad : jAd} {lvl mc ms z z2 : Nat} {Lv Lv2 : jLv} {V V2 : jV} {Rf Rf2 : jR} (p0 p1 : Int32) (hl0 : Lv 0 0 = true) (h : jMet l D ca q0 sa ad yX5_order cX5_order 3 (some .int) lvl mc ms [.ref (ad 0 0), .int p0, .int p1] (z, Lv, V, Rf) (jExc "java/lang/IllegalStateException" (z2, Lv2, V2, Rf2))) : jMetH l D ca q0 sa ad yL_order cL_order 5 (some .int) hL_order (lvl + 1) mc ms [.ref (ad 0 0), .int p0, .int p1, .ref (ad 60 0)] (z, Lv, V, Rf) (fun o M9 => o = .inl (some (.int 3)) ∧ M9.2 = (Lv2, V2, Rf2)) := by
  refine j_enterH RL [some (.ref (ad 0 0)), some (.int p0), some (.int p1), some (.ref (ad 60 0)), none] rfl (by decide) (by simp [Value.category]) (Nat.le_of_ble_eq_true rfl) rfl ?_
  intro p e s m args below meth c K hN hT
  refine j_aload_n K 3 dL_order_0 rfl rfl ?_
  refine j_iconst K 0 dL_order_1 rfl ?_
  refine j_aload_n K 0 dL_order_2 rfl rfl ?_
  refine j_iload_n K 1 dL_order_3 rfl rfl ?_
  refine j_iload_n K 2 dL_order_4 rfl rfl ?_
  refine j_callV K dL_order_5 m_X5_order v_X5_order k_L_85 rfl ⟨by decide, rfl⟩ hl0 h rfl rfl (by simp [Value.category]) ⟨(by show _ ≤ 6 + (lvl + 1); omega), (by show _ ≤ 100 + 30 * (lvl + 1); omega)⟩ (Nat.le_refl _) (Nat.le_refl _) (fun v9 M9 hq => ?_) (fun E9 M9 hq => ?_)
  · exact absurd hq.1 (fun w => nomatch w)
  · obtain ⟨h9, hM⟩ := hq
    cases h9
    refine j_catch K hN [⟨0, 10, 13, 28⟩, ⟨0, 10, 17, 13⟩] [] ⟨0, 10, 21, 15⟩ (hT.trans rfl) xn_IS (fun z hz => by
      rcases List.mem_cons.mp hz with e | e
      · rw [e]; exact ⟨by decide, _, xn_IB, by decide +kernel, xl_IB⟩
      · rw [List.mem_singleton.mp e]; exact ⟨by decide, _, xn_IA, by decide +kernel, xl_IA⟩) (by decide) (by decide) xl_IS xc_IS (fun q => ?_)
    refine j_astore K dL_order_21 (by decide) ?_
    refine j_iconst K 3 dL_order_23 rfl ?_
    refine j_iret K dL_order_24 ?_
    exact ⟨rfl, hM⟩
set_option maxRecDepth 20000 in
set_option maxHeartbeats 400000 in
theorem wr_cancelOrder {l : Launch} {D : va_G} {ca : Nat → ClassId} {q0 : Nat} {sa : Nat → Nat} {ad : jAd} {lvl mc ms z z2 : Nat} {Lv Lv2 : jLv} {V V2 : jV} {Rf Rf2 : jR} (p0 : Int32) (v : Int32) (hl0 : Lv 0 0 = true) (hl6 : Lv2 60 0 = true) (h : jMet l D ca q0 sa ad yX5_cancelOrder cX5_cancelOrder 3 (some .int) lvl mc ms [.ref (ad 0 0), .int p0] (z, Lv, V, Rf) (jRet (some (.int v)) (z2, Lv2, V2, Rf2))) : jMetH l D ca q0 sa ad yL_cancelOrder cL_cancelOrder 4 (some .int) hL_cancelOrder (lvl + 1) mc ms [.ref (ad 0 0), .int p0, .ref (ad 60 0)] (z, Lv, V, Rf) (fun o M9 => o = .inl (some (.int 0)) ∧ M9.2 = (Lv2, up V2 60 0 0 v, Rf2)) := by
  refine j_enterH RL [some (.ref (ad 0 0)), some (.int p0), some (.ref (ad 60 0)), none] rfl (by decide) (by simp [Value.category]) (Nat.le_of_ble_eq_true rfl) rfl ?_
  intro p e s m args below meth c K hN hT
  refine j_aload_n K 2 dL_cancelOrder_0 rfl rfl ?_
  refine j_iconst K 0 dL_cancelOrder_1 rfl ?_
  refine j_aload_n K 0 dL_cancelOrder_2 rfl rfl ?_
  refine j_iload_n K 1 dL_cancelOrder_3 rfl rfl ?_
  refine j_callV K dL_cancelOrder_4 m_X5_cancelOrder v_X5_cancelOrder k_L_88 rfl ⟨by decide, rfl⟩ hl0 h rfl rfl (by simp [Value.category]) ⟨(by show _ ≤ 6 + (lvl + 1); omega), (by show _ ≤ 100 + 30 * (lvl + 1); omega)⟩ (Nat.le_refl _) (Nat.le_refl _) (fun v9 M9 hq => ?_) (fun E9 M9 hq => ?_)
  · obtain ⟨h9, rfl⟩ := hq
    cases h9
    refine j_i2l K dL_cancelOrder_7 ?_
    refine jLast K 0 v dL_cancelOrder_8 rfl hl6 rfl (by decide) rfl ?_
    refine j_goto K 18 dL_cancelOrder_9 (by decide) ?_
    refine j_iconst K 0 dL_cancelOrder_18 rfl ?_
    refine j_iret K dL_cancelOrder_19 ?_
    exact ⟨rfl, rfl⟩
  · exact absurd hq.1 (fun w => nomatch w)
set_option maxRecDepth 20000 in
set_option maxHeartbeats 400000 in
theorem wx_cancelOrder_1 {l : Launch} {D : va_G} {ca : Nat → ClassId} {q0 : Nat} {sa : Nat → Nat} {ad : jAd} {lvl mc ms z z2 : Nat} {Lv Lv2 : jLv} {V V2 : jV} {Rf Rf2 : jR} (p0 : Int32) (hl0 : Lv 0 0 = true) (h : jMet l D ca q0 sa ad yX5_cancelOrder cX5_cancelOrder 3 (some .int) lvl mc ms [.ref (ad 0 0), .int p0] (z, Lv, V, Rf) (jExc "java/lang/IndexOutOfBoundsException" (z2, Lv2, V2, Rf2))) : jMetH l D ca q0 sa ad yL_cancelOrder cL_cancelOrder 4 (some .int) hL_cancelOrder (lvl + 1) mc ms [.ref (ad 0 0), .int p0, .ref (ad 60 0)] (z, Lv, V, Rf) (fun o M9 => o = .inl (some (.int 1)) ∧ M9.2 = (Lv2, V2, Rf2)) := by
  refine j_enterH RL [some (.ref (ad 0 0)), some (.int p0), some (.ref (ad 60 0)), none] rfl (by decide) (by simp [Value.category]) (Nat.le_of_ble_eq_true rfl) rfl ?_
  intro p e s m args below meth c K hN hT
  refine j_aload_n K 2 dL_cancelOrder_0 rfl rfl ?_
  refine j_iconst K 0 dL_cancelOrder_1 rfl ?_
  refine j_aload_n K 0 dL_cancelOrder_2 rfl rfl ?_
  refine j_iload_n K 1 dL_cancelOrder_3 rfl rfl ?_
  refine j_callV K dL_cancelOrder_4 m_X5_cancelOrder v_X5_cancelOrder k_L_88 rfl ⟨by decide, rfl⟩ hl0 h rfl rfl (by simp [Value.category]) ⟨(by show _ ≤ 6 + (lvl + 1); omega), (by show _ ≤ 100 + 30 * (lvl + 1); omega)⟩ (Nat.le_refl _) (Nat.le_refl _) (fun v9 M9 hq => ?_) (fun E9 M9 hq => ?_)
  · exact absurd hq.1 (fun w => nomatch w)
  · obtain ⟨h9, hM⟩ := hq
    cases h9
    refine j_catch K hN [] [⟨0, 9, 15, 65⟩] ⟨0, 9, 12, 28⟩ (hT.trans rfl) xn_IB (fun z hz => absurd hz List.not_mem_nil) (by decide) (by decide) xl_IB xc_IB (fun q => ?_)
    refine j_astore_n K 3 dL_cancelOrder_12 rfl (by decide) ?_
    refine j_iconst K 1 dL_cancelOrder_13 rfl ?_
    refine j_iret K dL_cancelOrder_14 ?_
    exact ⟨rfl, hM⟩
set_option maxRecDepth 20000 in
set_option maxHeartbeats 400000 in
theorem wx_cancelOrder_2 {l : Launch} {D : va_G} {ca : Nat → ClassId} {q0 : Nat} {sa : Nat → Nat} {ad : jAd} {lvl mc ms z z2 : Nat} {Lv Lv2 : jLv} {V V2 : jV} {Rf Rf2 : jR} (p0 : Int32) (hl0 : Lv 0 0 = true) (h : jMet l D ca q0 sa ad yX5_cancelOrder cX5_cancelOrder 3 (some .int) lvl mc ms [.ref (ad 0 0), .int p0] (z, Lv, V, Rf) (jExc ns_C (z2, Lv2, V2, Rf2))) : jMetH l D ca q0 sa ad yL_cancelOrder cL_cancelOrder 4 (some .int) hL_cancelOrder (lvl + 1) mc ms [.ref (ad 0 0), .int p0, .ref (ad 60 0)] (z, Lv, V, Rf) (fun o M9 => o = .inl (some (.int 2)) ∧ M9.2 = (Lv2, V2, Rf2)) := by
  refine j_enterH RL [some (.ref (ad 0 0)), some (.int p0), some (.ref (ad 60 0)), none] rfl (by decide) (by simp [Value.category]) (Nat.le_of_ble_eq_true rfl) rfl ?_
  intro p e s m args below meth c K hN hT
  refine j_aload_n K 2 dL_cancelOrder_0 rfl rfl ?_
  refine j_iconst K 0 dL_cancelOrder_1 rfl ?_
  refine j_aload_n K 0 dL_cancelOrder_2 rfl rfl ?_
  refine j_iload_n K 1 dL_cancelOrder_3 rfl rfl ?_
  refine j_callV K dL_cancelOrder_4 m_X5_cancelOrder v_X5_cancelOrder k_L_88 rfl ⟨by decide, rfl⟩ hl0 h rfl rfl (by simp [Value.category]) ⟨(by show _ ≤ 6 + (lvl + 1); omega), (by show _ ≤ 100 + 30 * (lvl + 1); omega)⟩ (Nat.le_refl _) (Nat.le_refl _) (fun v9 M9 hq => ?_) (fun E9 M9 hq => ?_)
  · exact absurd hq.1 (fun w => nomatch w)
  · obtain ⟨h9, hM⟩ := hq
    cases h9
    refine j_catch K hN [⟨0, 9, 12, 28⟩] [] ⟨0, 9, 15, 65⟩ (hT.trans rfl) xn_NS (fun z hz => by rw [List.mem_singleton.mp hz]; exact ⟨by decide, _, xn_IB, by decide +kernel, xl_IB⟩) (by decide) (by decide) xl_NS xc_NS (fun q => ?_)
    refine j_astore_n K 3 dL_cancelOrder_15 rfl (by decide) ?_
    refine j_iconst K 2 dL_cancelOrder_16 rfl ?_
    refine j_iret K dL_cancelOrder_17 ?_
    exact ⟨rfl, hM⟩
set_option maxRecDepth 20000 in
set_option maxHeartbeats 400000 in
theorem wr_waitingPier {l : Launch} {D : va_G} {ca : Nat → ClassId} {q0 : Nat} {sa : Nat → Nat} {ad : jAd} {lvl mc ms z z2 : Nat} {Lv Lv2 : jLv} {V V2 : jV} {Rf Rf2 : jR} (p0 : Int32) (v : Int32) (hl0 : Lv 0 0 = true) (hl6 : Lv2 60 0 = true) (h : jMet l D ca q0 sa ad yX5_waitingPier cX5_waitingPier 3 (some .int) lvl mc ms [.ref (ad 0 0), .int p0] (z, Lv, V, Rf) (jRet (some (.int v)) (z2, Lv2, V2, Rf2))) : jMetH l D ca q0 sa ad yL_waitingPier cL_waitingPier 4 (some .int) hL_waitingPier (lvl + 1) mc ms [.ref (ad 0 0), .int p0, .ref (ad 60 0)] (z, Lv, V, Rf) (fun o M9 => o = .inl (some (.int 0)) ∧ M9.2 = (Lv2, up V2 60 0 0 v, Rf2)) := by
  refine j_enterH RL [some (.ref (ad 0 0)), some (.int p0), some (.ref (ad 60 0)), none] rfl (by decide) (by simp [Value.category]) (Nat.le_of_ble_eq_true rfl) rfl ?_
  intro p e s m args below meth c K hN hT
  refine j_aload_n K 2 dL_waitingPier_0 rfl rfl ?_
  refine j_iconst K 0 dL_waitingPier_1 rfl ?_
  refine j_aload_n K 0 dL_waitingPier_2 rfl rfl ?_
  refine j_iload_n K 1 dL_waitingPier_3 rfl rfl ?_
  refine j_callV K dL_waitingPier_4 m_X5_waitingPier v_X5_waitingPier k_L_91 rfl ⟨by decide, rfl⟩ hl0 h rfl rfl (by simp [Value.category]) ⟨(by show _ ≤ 6 + (lvl + 1); omega), (by show _ ≤ 100 + 30 * (lvl + 1); omega)⟩ (Nat.le_refl _) (Nat.le_refl _) (fun v9 M9 hq => ?_) (fun E9 M9 hq => ?_)
  · obtain ⟨h9, rfl⟩ := hq
    cases h9
    refine j_i2l K dL_waitingPier_7 ?_
    refine jLast K 0 v dL_waitingPier_8 rfl hl6 rfl (by decide) rfl ?_
    refine j_goto K 15 dL_waitingPier_9 (by decide) ?_
    refine j_iconst K 0 dL_waitingPier_15 rfl ?_
    refine j_iret K dL_waitingPier_16 ?_
    exact ⟨rfl, rfl⟩
  · exact absurd hq.1 (fun w => nomatch w)
set_option maxRecDepth 20000 in
set_option maxHeartbeats 400000 in
theorem wx_waitingPier_1 {l : Launch} {D : va_G} {ca : Nat → ClassId} {q0 : Nat} {sa : Nat → Nat} {ad : jAd} {lvl mc ms z z2 : Nat} {Lv Lv2 : jLv} {V V2 : jV} {Rf Rf2 : jR} (p0 : Int32) (hl0 : Lv 0 0 = true) (h : jMet l D ca q0 sa ad yX5_waitingPier cX5_waitingPier 3 (some .int) lvl mc ms [.ref (ad 0 0), .int p0] (z, Lv, V, Rf) (jExc ns_C (z2, Lv2, V2, Rf2))) : jMetH l D ca q0 sa ad yL_waitingPier cL_waitingPier 4 (some .int) hL_waitingPier (lvl + 1) mc ms [.ref (ad 0 0), .int p0, .ref (ad 60 0)] (z, Lv, V, Rf) (fun o M9 => o = .inl (some (.int 1)) ∧ M9.2 = (Lv2, V2, Rf2)) := by
  refine j_enterH RL [some (.ref (ad 0 0)), some (.int p0), some (.ref (ad 60 0)), none] rfl (by decide) (by simp [Value.category]) (Nat.le_of_ble_eq_true rfl) rfl ?_
  intro p e s m args below meth c K hN hT
  refine j_aload_n K 2 dL_waitingPier_0 rfl rfl ?_
  refine j_iconst K 0 dL_waitingPier_1 rfl ?_
  refine j_aload_n K 0 dL_waitingPier_2 rfl rfl ?_
  refine j_iload_n K 1 dL_waitingPier_3 rfl rfl ?_
  refine j_callV K dL_waitingPier_4 m_X5_waitingPier v_X5_waitingPier k_L_91 rfl ⟨by decide, rfl⟩ hl0 h rfl rfl (by simp [Value.category]) ⟨(by show _ ≤ 6 + (lvl + 1); omega), (by show _ ≤ 100 + 30 * (lvl + 1); omega)⟩ (Nat.le_refl _) (Nat.le_refl _) (fun v9 M9 hq => ?_) (fun E9 M9 hq => ?_)
  · exact absurd hq.1 (fun w => nomatch w)
  · obtain ⟨h9, hM⟩ := hq
    cases h9
    refine j_catch K hN [] [] ⟨0, 9, 12, 65⟩ (hT.trans rfl) xn_NS (fun z hz => absurd hz List.not_mem_nil) (by decide) (by decide) xl_NS xc_NS (fun q => ?_)
    refine j_astore_n K 3 dL_waitingPier_12 rfl (by decide) ?_
    refine j_iconst K 1 dL_waitingPier_13 rfl ?_
    refine j_iret K dL_waitingPier_14 ?_
    exact ⟨rfl, hM⟩
set_option maxRecDepth 20000 in
set_option maxHeartbeats 400000 in
theorem wr_paint {l : Launch} {D : va_G} {ca : Nat → ClassId} {q0 : Nat} {sa : Nat → Nat} {ad : jAd} {lvl mc ms z z2 : Nat} {Lv Lv2 : jLv} {V V2 : jV} {Rf Rf2 : jR} (p0 : Int32) (v : Int32) (hl0 : Lv 0 0 = true) (hl6 : Lv2 60 0 = true) (h : jMet l D ca q0 sa ad yX5_paint cX5_paint 3 (some .int) lvl mc ms [.ref (ad 0 0), .int p0] (z, Lv, V, Rf) (jRet (some (.int v)) (z2, Lv2, V2, Rf2))) : jMetH l D ca q0 sa ad yL_paint cL_paint 4 (some .int) hL_paint (lvl + 1) mc ms [.ref (ad 0 0), .int p0, .ref (ad 60 0)] (z, Lv, V, Rf) (fun o M9 => o = .inl (some (.int 0)) ∧ M9.2 = (Lv2, up V2 60 0 0 v, Rf2)) := by
  refine j_enterH RL [some (.ref (ad 0 0)), some (.int p0), some (.ref (ad 60 0)), none] rfl (by decide) (by simp [Value.category]) (Nat.le_of_ble_eq_true rfl) rfl ?_
  intro p e s m args below meth c K hN hT
  refine j_aload_n K 2 dL_paint_0 rfl rfl ?_
  refine j_iconst K 0 dL_paint_1 rfl ?_
  refine j_aload_n K 0 dL_paint_2 rfl rfl ?_
  refine j_iload_n K 1 dL_paint_3 rfl rfl ?_
  refine j_callV K dL_paint_4 m_X5_paint v_X5_paint k_L_94 rfl ⟨by decide, rfl⟩ hl0 h rfl rfl (by simp [Value.category]) ⟨(by show _ ≤ 6 + (lvl + 1); omega), (by show _ ≤ 100 + 30 * (lvl + 1); omega)⟩ (Nat.le_refl _) (Nat.le_refl _) (fun v9 M9 hq => ?_) (fun E9 M9 hq => ?_)
  · obtain ⟨h9, rfl⟩ := hq
    cases h9
    refine j_i2l K dL_paint_7 ?_
    refine jLast K 0 v dL_paint_8 rfl hl6 rfl (by decide) rfl ?_
    refine j_goto K 15 dL_paint_9 (by decide) ?_
    refine j_iconst K 0 dL_paint_15 rfl ?_
    refine j_iret K dL_paint_16 ?_
    exact ⟨rfl, rfl⟩
  · exact absurd hq.1 (fun w => nomatch w)
set_option maxRecDepth 20000 in
set_option maxHeartbeats 400000 in
theorem wx_paint_1 {l : Launch} {D : va_G} {ca : Nat → ClassId} {q0 : Nat} {sa : Nat → Nat} {ad : jAd} {lvl mc ms z z2 : Nat} {Lv Lv2 : jLv} {V V2 : jV} {Rf Rf2 : jR} (p0 : Int32) (hl0 : Lv 0 0 = true) (h : jMet l D ca q0 sa ad yX5_paint cX5_paint 3 (some .int) lvl mc ms [.ref (ad 0 0), .int p0] (z, Lv, V, Rf) (jExc "java/lang/IllegalArgumentException" (z2, Lv2, V2, Rf2))) : jMetH l D ca q0 sa ad yL_paint cL_paint 4 (some .int) hL_paint (lvl + 1) mc ms [.ref (ad 0 0), .int p0, .ref (ad 60 0)] (z, Lv, V, Rf) (fun o M9 => o = .inl (some (.int 1)) ∧ M9.2 = (Lv2, V2, Rf2)) := by
  refine j_enterH RL [some (.ref (ad 0 0)), some (.int p0), some (.ref (ad 60 0)), none] rfl (by decide) (by simp [Value.category]) (Nat.le_of_ble_eq_true rfl) rfl ?_
  intro p e s m args below meth c K hN hT
  refine j_aload_n K 2 dL_paint_0 rfl rfl ?_
  refine j_iconst K 0 dL_paint_1 rfl ?_
  refine j_aload_n K 0 dL_paint_2 rfl rfl ?_
  refine j_iload_n K 1 dL_paint_3 rfl rfl ?_
  refine j_callV K dL_paint_4 m_X5_paint v_X5_paint k_L_94 rfl ⟨by decide, rfl⟩ hl0 h rfl rfl (by simp [Value.category]) ⟨(by show _ ≤ 6 + (lvl + 1); omega), (by show _ ≤ 100 + 30 * (lvl + 1); omega)⟩ (Nat.le_refl _) (Nat.le_refl _) (fun v9 M9 hq => ?_) (fun E9 M9 hq => ?_)
  · exact absurd hq.1 (fun w => nomatch w)
  · obtain ⟨h9, hM⟩ := hq
    cases h9
    refine j_catch K hN [] [] ⟨0, 9, 12, 13⟩ (hT.trans rfl) xn_IA (fun z hz => absurd hz List.not_mem_nil) (by decide) (by decide) xl_IA xc_IA (fun q => ?_)
    refine j_astore_n K 3 dL_paint_12 rfl (by decide) ?_
    refine j_iconst K 1 dL_paint_13 rfl ?_
    refine j_iret K dL_paint_14 ?_
    exact ⟨rfl, hM⟩
set_option maxRecDepth 20000 in
set_option maxHeartbeats 400000 in
theorem wr_giveUpJob {l : Launch} {D : va_G} {ca : Nat → ClassId} {q0 : Nat} {sa : Nat → Nat} {ad : jAd} {lvl mc ms z z2 : Nat} {Lv Lv2 : jLv} {V V2 : jV} {Rf Rf2 : jR} (v : Int32) (hl0 : Lv 0 0 = true) (hl6 : Lv2 60 0 = true) (h : jMet l D ca q0 sa ad yX5_giveUpJob cX5_giveUpJob 2 (some .int) lvl mc ms [.ref (ad 0 0)] (z, Lv, V, Rf) (jRet (some (.int v)) (z2, Lv2, V2, Rf2))) : jMetH l D ca q0 sa ad yL_giveUpJob cL_giveUpJob 3 (some .int) hL_giveUpJob (lvl + 1) mc ms [.ref (ad 0 0), .ref (ad 60 0)] (z, Lv, V, Rf) (fun o M9 => o = .inl (some (.int 0)) ∧ M9.2 = (Lv2, up V2 60 0 0 v, Rf2)) := by
  refine j_enterH RL [some (.ref (ad 0 0)), some (.ref (ad 60 0)), none] rfl (by decide) (by simp [Value.category]) (Nat.le_of_ble_eq_true rfl) rfl ?_
  intro p e s m args below meth c K hN hT
  refine j_aload_n K 1 dL_giveUpJob_0 rfl rfl ?_
  refine j_iconst K 0 dL_giveUpJob_1 rfl ?_
  refine j_aload_n K 0 dL_giveUpJob_2 rfl rfl ?_
  refine j_callV K dL_giveUpJob_3 m_X5_giveUpJob v_X5_giveUpJob k_L_97 rfl ⟨by decide, rfl⟩ hl0 h rfl rfl (by simp [Value.category]) ⟨(by show _ ≤ 6 + (lvl + 1); omega), (by show _ ≤ 100 + 30 * (lvl + 1); omega)⟩ (Nat.le_refl _) (Nat.le_refl _) (fun v9 M9 hq => ?_) (fun E9 M9 hq => ?_)
  · obtain ⟨h9, rfl⟩ := hq
    cases h9
    refine j_i2l K dL_giveUpJob_6 ?_
    refine jLast K 0 v dL_giveUpJob_7 rfl hl6 rfl (by decide) rfl ?_
    refine j_goto K 14 dL_giveUpJob_8 (by decide) ?_
    refine j_iconst K 0 dL_giveUpJob_14 rfl ?_
    refine j_iret K dL_giveUpJob_15 ?_
    exact ⟨rfl, rfl⟩
  · exact absurd hq.1 (fun w => nomatch w)
set_option maxRecDepth 20000 in
set_option maxHeartbeats 400000 in
theorem wx_giveUpJob_1 {l : Launch} {D : va_G} {ca : Nat → ClassId} {q0 : Nat} {sa : Nat → Nat} {ad : jAd} {lvl mc ms z z2 : Nat} {Lv Lv2 : jLv} {V V2 : jV} {Rf Rf2 : jR} (hl0 : Lv 0 0 = true) (h : jMet l D ca q0 sa ad yX5_giveUpJob cX5_giveUpJob 2 (some .int) lvl mc ms [.ref (ad 0 0)] (z, Lv, V, Rf) (jExc "java/lang/IllegalStateException" (z2, Lv2, V2, Rf2))) : jMetH l D ca q0 sa ad yL_giveUpJob cL_giveUpJob 3 (some .int) hL_giveUpJob (lvl + 1) mc ms [.ref (ad 0 0), .ref (ad 60 0)] (z, Lv, V, Rf) (fun o M9 => o = .inl (some (.int 1)) ∧ M9.2 = (Lv2, V2, Rf2)) := by
  refine j_enterH RL [some (.ref (ad 0 0)), some (.ref (ad 60 0)), none] rfl (by decide) (by simp [Value.category]) (Nat.le_of_ble_eq_true rfl) rfl ?_
  intro p e s m args below meth c K hN hT
  refine j_aload_n K 1 dL_giveUpJob_0 rfl rfl ?_
  refine j_iconst K 0 dL_giveUpJob_1 rfl ?_
  refine j_aload_n K 0 dL_giveUpJob_2 rfl rfl ?_
  refine j_callV K dL_giveUpJob_3 m_X5_giveUpJob v_X5_giveUpJob k_L_97 rfl ⟨by decide, rfl⟩ hl0 h rfl rfl (by simp [Value.category]) ⟨(by show _ ≤ 6 + (lvl + 1); omega), (by show _ ≤ 100 + 30 * (lvl + 1); omega)⟩ (Nat.le_refl _) (Nat.le_refl _) (fun v9 M9 hq => ?_) (fun E9 M9 hq => ?_)
  · exact absurd hq.1 (fun w => nomatch w)
  · obtain ⟨h9, hM⟩ := hq
    cases h9
    refine j_catch K hN [] [] ⟨0, 8, 11, 15⟩ (hT.trans rfl) xn_IS (fun z hz => absurd hz List.not_mem_nil) (by decide) (by decide) xl_IS xc_IS (fun q => ?_)
    refine j_astore_n K 2 dL_giveUpJob_11 rfl (by decide) ?_
    refine j_iconst K 1 dL_giveUpJob_12 rfl ?_
    refine j_iret K dL_giveUpJob_13 ?_
    exact ⟨rfl, hM⟩
set_option maxRecDepth 20000 in
set_option maxHeartbeats 400000 in
theorem wr_touchUp {l : Launch} {D : va_G} {ca : Nat → ClassId} {q0 : Nat} {sa : Nat → Nat} {ad : jAd} {lvl mc ms z z2 : Nat} {Lv Lv2 : jLv} {V V2 : jV} {Rf Rf2 : jR} (p0 : Int32) (v : Int32) (hl0 : Lv 0 0 = true) (hl6 : Lv2 60 0 = true) (h : jMet l D ca q0 sa ad yX5_touchUp cX5_touchUp 4 (some .int) lvl mc ms [.ref (ad 0 0), .int p0] (z, Lv, V, Rf) (jRet (some (.int v)) (z2, Lv2, V2, Rf2))) : jMetH l D ca q0 sa ad yL_touchUp cL_touchUp 4 (some .int) hL_touchUp (lvl + 1) mc ms [.ref (ad 0 0), .int p0, .ref (ad 60 0)] (z, Lv, V, Rf) (fun o M9 => o = .inl (some (.int 0)) ∧ M9.2 = (Lv2, up V2 60 0 0 v, Rf2)) := by
  refine j_enterH RL [some (.ref (ad 0 0)), some (.int p0), some (.ref (ad 60 0)), none] rfl (by decide) (by simp [Value.category]) (Nat.le_of_ble_eq_true rfl) rfl ?_
  intro p e s m args below meth c K hN hT
  refine j_aload_n K 2 dL_touchUp_0 rfl rfl ?_
  refine j_iconst K 0 dL_touchUp_1 rfl ?_
  refine j_aload_n K 0 dL_touchUp_2 rfl rfl ?_
  refine j_iload_n K 1 dL_touchUp_3 rfl rfl ?_
  refine j_callV K dL_touchUp_4 m_X5_touchUp v_X5_touchUp k_L_101 rfl ⟨by decide, rfl⟩ hl0 h rfl rfl (by simp [Value.category]) ⟨(by show _ ≤ 6 + (lvl + 1); omega), (by show _ ≤ 100 + 30 * (lvl + 1); omega)⟩ (Nat.le_refl _) (Nat.le_refl _) (fun v9 M9 hq => ?_) (fun E9 M9 hq => ?_)
  · obtain ⟨h9, rfl⟩ := hq
    cases h9
    refine j_i2l K dL_touchUp_7 ?_
    refine jLast K 0 v dL_touchUp_8 rfl hl6 rfl (by decide) rfl ?_
    refine j_goto K 21 dL_touchUp_9 (by decide) ?_
    refine j_iconst K 0 dL_touchUp_21 rfl ?_
    refine j_iret K dL_touchUp_22 ?_
    exact ⟨rfl, rfl⟩
  · exact absurd hq.1 (fun w => nomatch w)
set_option maxRecDepth 20000 in
set_option maxHeartbeats 400000 in
theorem wx_touchUp_1 {l : Launch} {D : va_G} {ca : Nat → ClassId} {q0 : Nat} {sa : Nat → Nat} {ad : jAd} {lvl mc ms z z2 : Nat} {Lv Lv2 : jLv} {V V2 : jV} {Rf Rf2 : jR} (p0 : Int32) (hl0 : Lv 0 0 = true) (h : jMet l D ca q0 sa ad yX5_touchUp cX5_touchUp 4 (some .int) lvl mc ms [.ref (ad 0 0), .int p0] (z, Lv, V, Rf) (jExc "java/lang/IndexOutOfBoundsException" (z2, Lv2, V2, Rf2))) : jMetH l D ca q0 sa ad yL_touchUp cL_touchUp 4 (some .int) hL_touchUp (lvl + 1) mc ms [.ref (ad 0 0), .int p0, .ref (ad 60 0)] (z, Lv, V, Rf) (fun o M9 => o = .inl (some (.int 1)) ∧ M9.2 = (Lv2, V2, Rf2)) := by
  refine j_enterH RL [some (.ref (ad 0 0)), some (.int p0), some (.ref (ad 60 0)), none] rfl (by decide) (by simp [Value.category]) (Nat.le_of_ble_eq_true rfl) rfl ?_
  intro p e s m args below meth c K hN hT
  refine j_aload_n K 2 dL_touchUp_0 rfl rfl ?_
  refine j_iconst K 0 dL_touchUp_1 rfl ?_
  refine j_aload_n K 0 dL_touchUp_2 rfl rfl ?_
  refine j_iload_n K 1 dL_touchUp_3 rfl rfl ?_
  refine j_callV K dL_touchUp_4 m_X5_touchUp v_X5_touchUp k_L_101 rfl ⟨by decide, rfl⟩ hl0 h rfl rfl (by simp [Value.category]) ⟨(by show _ ≤ 6 + (lvl + 1); omega), (by show _ ≤ 100 + 30 * (lvl + 1); omega)⟩ (Nat.le_refl _) (Nat.le_refl _) (fun v9 M9 hq => ?_) (fun E9 M9 hq => ?_)
  · exact absurd hq.1 (fun w => nomatch w)
  · obtain ⟨h9, hM⟩ := hq
    cases h9
    refine j_catch K hN [] [⟨0, 9, 15, 65⟩, ⟨0, 9, 18, 15⟩] ⟨0, 9, 12, 28⟩ (hT.trans rfl) xn_IB (fun z hz => absurd hz List.not_mem_nil) (by decide) (by decide) xl_IB xc_IB (fun q => ?_)
    refine j_astore_n K 3 dL_touchUp_12 rfl (by decide) ?_
    refine j_iconst K 1 dL_touchUp_13 rfl ?_
    refine j_iret K dL_touchUp_14 ?_
    exact ⟨rfl, hM⟩
set_option maxRecDepth 20000 in
set_option maxHeartbeats 400000 in
theorem wx_touchUp_2 {l : Launch} {D : va_G} {ca : Nat → ClassId} {q0 : Nat} {sa : Nat → Nat} {ad : jAd} {lvl mc ms z z2 : Nat} {Lv Lv2 : jLv} {V V2 : jV} {Rf Rf2 : jR} (p0 : Int32) (hl0 : Lv 0 0 = true) (h : jMet l D ca q0 sa ad yX5_touchUp cX5_touchUp 4 (some .int) lvl mc ms [.ref (ad 0 0), .int p0] (z, Lv, V, Rf) (jExc ns_C (z2, Lv2, V2, Rf2))) : jMetH l D ca q0 sa ad yL_touchUp cL_touchUp 4 (some .int) hL_touchUp (lvl + 1) mc ms [.ref (ad 0 0), .int p0, .ref (ad 60 0)] (z, Lv, V, Rf) (fun o M9 => o = .inl (some (.int 2)) ∧ M9.2 = (Lv2, V2, Rf2)) := by
  refine j_enterH RL [some (.ref (ad 0 0)), some (.int p0), some (.ref (ad 60 0)), none] rfl (by decide) (by simp [Value.category]) (Nat.le_of_ble_eq_true rfl) rfl ?_
  intro p e s m args below meth c K hN hT
  refine j_aload_n K 2 dL_touchUp_0 rfl rfl ?_
  refine j_iconst K 0 dL_touchUp_1 rfl ?_
  refine j_aload_n K 0 dL_touchUp_2 rfl rfl ?_
  refine j_iload_n K 1 dL_touchUp_3 rfl rfl ?_
  refine j_callV K dL_touchUp_4 m_X5_touchUp v_X5_touchUp k_L_101 rfl ⟨by decide, rfl⟩ hl0 h rfl rfl (by simp [Value.category]) ⟨(by show _ ≤ 6 + (lvl + 1); omega), (by show _ ≤ 100 + 30 * (lvl + 1); omega)⟩ (Nat.le_refl _) (Nat.le_refl _) (fun v9 M9 hq => ?_) (fun E9 M9 hq => ?_)
  · exact absurd hq.1 (fun w => nomatch w)
  · obtain ⟨h9, hM⟩ := hq
    cases h9
    refine j_catch K hN [⟨0, 9, 12, 28⟩] [⟨0, 9, 18, 15⟩] ⟨0, 9, 15, 65⟩ (hT.trans rfl) xn_NS (fun z hz => by rw [List.mem_singleton.mp hz]; exact ⟨by decide, _, xn_IB, by decide +kernel, xl_IB⟩) (by decide) (by decide) xl_NS xc_NS (fun q => ?_)
    refine j_astore_n K 3 dL_touchUp_15 rfl (by decide) ?_
    refine j_iconst K 2 dL_touchUp_16 rfl ?_
    refine j_iret K dL_touchUp_17 ?_
    exact ⟨rfl, hM⟩
set_option maxRecDepth 20000 in
set_option maxHeartbeats 400000 in
theorem wx_touchUp_3 {l : Launch} {D : va_G} {ca : Nat → ClassId} {q0 : Nat} {sa : Nat → Nat} {ad : jAd} {lvl mc ms z z2 : Nat} {Lv Lv2 : jLv} {V V2 : jV} {Rf Rf2 : jR} (p0 : Int32) (hl0 : Lv 0 0 = true) (h : jMet l D ca q0 sa ad yX5_touchUp cX5_touchUp 4 (some .int) lvl mc ms [.ref (ad 0 0), .int p0] (z, Lv, V, Rf) (jExc "java/lang/IllegalStateException" (z2, Lv2, V2, Rf2))) : jMetH l D ca q0 sa ad yL_touchUp cL_touchUp 4 (some .int) hL_touchUp (lvl + 1) mc ms [.ref (ad 0 0), .int p0, .ref (ad 60 0)] (z, Lv, V, Rf) (fun o M9 => o = .inl (some (.int 3)) ∧ M9.2 = (Lv2, V2, Rf2)) := by
  refine j_enterH RL [some (.ref (ad 0 0)), some (.int p0), some (.ref (ad 60 0)), none] rfl (by decide) (by simp [Value.category]) (Nat.le_of_ble_eq_true rfl) rfl ?_
  intro p e s m args below meth c K hN hT
  refine j_aload_n K 2 dL_touchUp_0 rfl rfl ?_
  refine j_iconst K 0 dL_touchUp_1 rfl ?_
  refine j_aload_n K 0 dL_touchUp_2 rfl rfl ?_
  refine j_iload_n K 1 dL_touchUp_3 rfl rfl ?_
  refine j_callV K dL_touchUp_4 m_X5_touchUp v_X5_touchUp k_L_101 rfl ⟨by decide, rfl⟩ hl0 h rfl rfl (by simp [Value.category]) ⟨(by show _ ≤ 6 + (lvl + 1); omega), (by show _ ≤ 100 + 30 * (lvl + 1); omega)⟩ (Nat.le_refl _) (Nat.le_refl _) (fun v9 M9 hq => ?_) (fun E9 M9 hq => ?_)
  · exact absurd hq.1 (fun w => nomatch w)
  · obtain ⟨h9, hM⟩ := hq
    cases h9
    refine j_catch K hN [⟨0, 9, 12, 28⟩, ⟨0, 9, 15, 65⟩] [] ⟨0, 9, 18, 15⟩ (hT.trans rfl) xn_IS (fun z hz => by
      rcases List.mem_cons.mp hz with e | e
      · rw [e]; exact ⟨by decide, _, xn_IB, by decide +kernel, xl_IB⟩
      · rw [List.mem_singleton.mp e]; exact ⟨by decide, _, xn_NS, by decide +kernel, xl_NS⟩) (by decide) (by decide) xl_IS xc_IS (fun q => ?_)
    refine j_astore_n K 3 dL_touchUp_18 rfl (by decide) ?_
    refine j_iconst K 3 dL_touchUp_19 rfl ?_
    refine j_iret K dL_touchUp_20 ?_
    exact ⟨rfl, hM⟩
set_option maxRecDepth 20000 in
set_option maxHeartbeats 400000 in
theorem wr_boardDay {l : Launch} {D : va_G} {ca : Nat → ClassId} {q0 : Nat} {sa : Nat → Nat} {ad : jAd} {lvl mc ms z z2 : Nat} {Lv Lv2 : jLv} {V V2 : jV} {Rf Rf2 : jR} (p0 : Int32) (v : Int32) (hl0 : Lv 0 0 = true) (hl6 : Lv2 60 0 = true) (h : jMet l D ca q0 sa ad yX5_boardDay cX5_boardDay 2 (some .int) lvl mc ms [.ref (ad 0 0), .int p0] (z, Lv, V, Rf) (jRet (some (.int v)) (z2, Lv2, V2, Rf2))) : jMetH l D ca q0 sa ad yL_boardDay cL_boardDay 4 (some .int) hL_boardDay (lvl + 1) mc ms [.ref (ad 0 0), .int p0, .ref (ad 60 0)] (z, Lv, V, Rf) (fun o M9 => o = .inl (some (.int 0)) ∧ M9.2 = (Lv2, up V2 60 0 0 v, Rf2)) := by
  refine j_enterH RL [some (.ref (ad 0 0)), some (.int p0), some (.ref (ad 60 0)), none] rfl (by decide) (by simp [Value.category]) (Nat.le_of_ble_eq_true rfl) rfl ?_
  intro p e s m args below meth c K hN hT
  refine j_aload_n K 2 dL_boardDay_0 rfl rfl ?_
  refine j_iconst K 0 dL_boardDay_1 rfl ?_
  refine j_aload_n K 0 dL_boardDay_2 rfl rfl ?_
  refine j_iload_n K 1 dL_boardDay_3 rfl rfl ?_
  refine j_callV K dL_boardDay_4 m_X5_boardDay v_X5_boardDay k_L_104 rfl ⟨by decide, rfl⟩ hl0 h rfl rfl (by simp [Value.category]) ⟨(by show _ ≤ 6 + (lvl + 1); omega), (by show _ ≤ 100 + 30 * (lvl + 1); omega)⟩ (Nat.le_refl _) (Nat.le_refl _) (fun v9 M9 hq => ?_) (fun E9 M9 hq => ?_)
  · obtain ⟨h9, rfl⟩ := hq
    cases h9
    refine j_i2l K dL_boardDay_7 ?_
    refine jLast K 0 v dL_boardDay_8 rfl hl6 rfl (by decide) rfl ?_
    refine j_goto K 15 dL_boardDay_9 (by decide) ?_
    refine j_iconst K 0 dL_boardDay_15 rfl ?_
    refine j_iret K dL_boardDay_16 ?_
    exact ⟨rfl, rfl⟩
  · exact absurd hq.1 (fun w => nomatch w)
set_option maxRecDepth 20000 in
set_option maxHeartbeats 400000 in
theorem wx_boardDay_1 {l : Launch} {D : va_G} {ca : Nat → ClassId} {q0 : Nat} {sa : Nat → Nat} {ad : jAd} {lvl mc ms z z2 : Nat} {Lv Lv2 : jLv} {V V2 : jV} {Rf Rf2 : jR} (p0 : Int32) (hl0 : Lv 0 0 = true) (h : jMet l D ca q0 sa ad yX5_boardDay cX5_boardDay 2 (some .int) lvl mc ms [.ref (ad 0 0), .int p0] (z, Lv, V, Rf) (jExc "java/lang/IndexOutOfBoundsException" (z2, Lv2, V2, Rf2))) : jMetH l D ca q0 sa ad yL_boardDay cL_boardDay 4 (some .int) hL_boardDay (lvl + 1) mc ms [.ref (ad 0 0), .int p0, .ref (ad 60 0)] (z, Lv, V, Rf) (fun o M9 => o = .inl (some (.int 1)) ∧ M9.2 = (Lv2, V2, Rf2)) := by
  refine j_enterH RL [some (.ref (ad 0 0)), some (.int p0), some (.ref (ad 60 0)), none] rfl (by decide) (by simp [Value.category]) (Nat.le_of_ble_eq_true rfl) rfl ?_
  intro p e s m args below meth c K hN hT
  refine j_aload_n K 2 dL_boardDay_0 rfl rfl ?_
  refine j_iconst K 0 dL_boardDay_1 rfl ?_
  refine j_aload_n K 0 dL_boardDay_2 rfl rfl ?_
  refine j_iload_n K 1 dL_boardDay_3 rfl rfl ?_
  refine j_callV K dL_boardDay_4 m_X5_boardDay v_X5_boardDay k_L_104 rfl ⟨by decide, rfl⟩ hl0 h rfl rfl (by simp [Value.category]) ⟨(by show _ ≤ 6 + (lvl + 1); omega), (by show _ ≤ 100 + 30 * (lvl + 1); omega)⟩ (Nat.le_refl _) (Nat.le_refl _) (fun v9 M9 hq => ?_) (fun E9 M9 hq => ?_)
  · exact absurd hq.1 (fun w => nomatch w)
  · obtain ⟨h9, hM⟩ := hq
    cases h9
    refine j_catch K hN [] [] ⟨0, 9, 12, 28⟩ (hT.trans rfl) xn_IB (fun z hz => absurd hz List.not_mem_nil) (by decide) (by decide) xl_IB xc_IB (fun q => ?_)
    refine j_astore_n K 3 dL_boardDay_12 rfl (by decide) ?_
    refine j_iconst K 1 dL_boardDay_13 rfl ?_
    refine j_iret K dL_boardDay_14 ?_
    exact ⟨rfl, hM⟩
set_option maxRecDepth 20000 in
set_option maxHeartbeats 400000 in
theorem wr_lineCount {l : Launch} {D : va_G} {ca : Nat → ClassId} {q0 : Nat} {sa : Nat → Nat} {ad : jAd} {lvl mc ms z z2 : Nat} {Lv Lv2 : jLv} {V V2 : jV} {Rf Rf2 : jR} (p0 : Int32) (v : Int32) (hl0 : Lv 0 0 = true) (hl6 : Lv2 60 0 = true) (h : jMet l D ca q0 sa ad yX5_lineCount cX5_lineCount 2 (some .int) lvl mc ms [.ref (ad 0 0), .int p0] (z, Lv, V, Rf) (jRet (some (.int v)) (z2, Lv2, V2, Rf2))) : jMetH l D ca q0 sa ad yL_lineCount cL_lineCount 4 (some .int) hL_lineCount (lvl + 1) mc ms [.ref (ad 0 0), .int p0, .ref (ad 60 0)] (z, Lv, V, Rf) (fun o M9 => o = .inl (some (.int 0)) ∧ M9.2 = (Lv2, up V2 60 0 0 v, Rf2)) := by
  refine j_enterH RL [some (.ref (ad 0 0)), some (.int p0), some (.ref (ad 60 0)), none] rfl (by decide) (by simp [Value.category]) (Nat.le_of_ble_eq_true rfl) rfl ?_
  intro p e s m args below meth c K hN hT
  refine j_aload_n K 2 dL_lineCount_0 rfl rfl ?_
  refine j_iconst K 0 dL_lineCount_1 rfl ?_
  refine j_aload_n K 0 dL_lineCount_2 rfl rfl ?_
  refine j_iload_n K 1 dL_lineCount_3 rfl rfl ?_
  refine j_callV K dL_lineCount_4 m_X5_lineCount v_X5_lineCount k_L_107 rfl ⟨by decide, rfl⟩ hl0 h rfl rfl (by simp [Value.category]) ⟨(by show _ ≤ 6 + (lvl + 1); omega), (by show _ ≤ 100 + 30 * (lvl + 1); omega)⟩ (Nat.le_refl _) (Nat.le_refl _) (fun v9 M9 hq => ?_) (fun E9 M9 hq => ?_)
  · obtain ⟨h9, rfl⟩ := hq
    cases h9
    refine j_i2l K dL_lineCount_7 ?_
    refine jLast K 0 v dL_lineCount_8 rfl hl6 rfl (by decide) rfl ?_
    refine j_goto K 15 dL_lineCount_9 (by decide) ?_
    refine j_iconst K 0 dL_lineCount_15 rfl ?_
    refine j_iret K dL_lineCount_16 ?_
    exact ⟨rfl, rfl⟩
  · exact absurd hq.1 (fun w => nomatch w)
set_option maxRecDepth 20000 in
set_option maxHeartbeats 400000 in
theorem wx_lineCount_1 {l : Launch} {D : va_G} {ca : Nat → ClassId} {q0 : Nat} {sa : Nat → Nat} {ad : jAd} {lvl mc ms z z2 : Nat} {Lv Lv2 : jLv} {V V2 : jV} {Rf Rf2 : jR} (p0 : Int32) (hl0 : Lv 0 0 = true) (h : jMet l D ca q0 sa ad yX5_lineCount cX5_lineCount 2 (some .int) lvl mc ms [.ref (ad 0 0), .int p0] (z, Lv, V, Rf) (jExc "java/lang/IndexOutOfBoundsException" (z2, Lv2, V2, Rf2))) : jMetH l D ca q0 sa ad yL_lineCount cL_lineCount 4 (some .int) hL_lineCount (lvl + 1) mc ms [.ref (ad 0 0), .int p0, .ref (ad 60 0)] (z, Lv, V, Rf) (fun o M9 => o = .inl (some (.int 1)) ∧ M9.2 = (Lv2, V2, Rf2)) := by
  refine j_enterH RL [some (.ref (ad 0 0)), some (.int p0), some (.ref (ad 60 0)), none] rfl (by decide) (by simp [Value.category]) (Nat.le_of_ble_eq_true rfl) rfl ?_
  intro p e s m args below meth c K hN hT
  refine j_aload_n K 2 dL_lineCount_0 rfl rfl ?_
  refine j_iconst K 0 dL_lineCount_1 rfl ?_
  refine j_aload_n K 0 dL_lineCount_2 rfl rfl ?_
  refine j_iload_n K 1 dL_lineCount_3 rfl rfl ?_
  refine j_callV K dL_lineCount_4 m_X5_lineCount v_X5_lineCount k_L_107 rfl ⟨by decide, rfl⟩ hl0 h rfl rfl (by simp [Value.category]) ⟨(by show _ ≤ 6 + (lvl + 1); omega), (by show _ ≤ 100 + 30 * (lvl + 1); omega)⟩ (Nat.le_refl _) (Nat.le_refl _) (fun v9 M9 hq => ?_) (fun E9 M9 hq => ?_)
  · exact absurd hq.1 (fun w => nomatch w)
  · obtain ⟨h9, hM⟩ := hq
    cases h9
    refine j_catch K hN [] [] ⟨0, 9, 12, 28⟩ (hT.trans rfl) xn_IB (fun z hz => absurd hz List.not_mem_nil) (by decide) (by decide) xl_IB xc_IB (fun q => ?_)
    refine j_astore_n K 3 dL_lineCount_12 rfl (by decide) ?_
    refine j_iconst K 1 dL_lineCount_13 rfl ?_
    refine j_iret K dL_lineCount_14 ?_
    exact ⟨rfl, hM⟩
set_option maxRecDepth 20000 in
set_option maxHeartbeats 400000 in
theorem wr_lineState {l : Launch} {D : va_G} {ca : Nat → ClassId} {q0 : Nat} {sa : Nat → Nat} {ad : jAd} {lvl mc ms z z2 : Nat} {Lv Lv2 : jLv} {V V2 : jV} {Rf Rf2 : jR} (p0 p1 : Int32) (v : Int32) (hl0 : Lv 0 0 = true) (hl6 : Lv2 60 0 = true) (h : jMet l D ca q0 sa ad yX5_lineState cX5_lineState 3 (some .int) lvl mc ms [.ref (ad 0 0), .int p0, .int p1] (z, Lv, V, Rf) (jRet (some (.int v)) (z2, Lv2, V2, Rf2))) : jMetH l D ca q0 sa ad yL_lineState cL_lineState 5 (some .int) hL_lineState (lvl + 1) mc ms [.ref (ad 0 0), .int p0, .int p1, .ref (ad 60 0)] (z, Lv, V, Rf) (fun o M9 => o = .inl (some (.int 0)) ∧ M9.2 = (Lv2, up V2 60 0 0 v, Rf2)) := by
  refine j_enterH RL [some (.ref (ad 0 0)), some (.int p0), some (.int p1), some (.ref (ad 60 0)), none] rfl (by decide) (by simp [Value.category]) (Nat.le_of_ble_eq_true rfl) rfl ?_
  intro p e s m args below meth c K hN hT
  refine j_aload_n K 3 dL_lineState_0 rfl rfl ?_
  refine j_iconst K 0 dL_lineState_1 rfl ?_
  refine j_aload_n K 0 dL_lineState_2 rfl rfl ?_
  refine j_iload_n K 1 dL_lineState_3 rfl rfl ?_
  refine j_iload_n K 2 dL_lineState_4 rfl rfl ?_
  refine j_callV K dL_lineState_5 m_X5_lineState v_X5_lineState k_L_110 rfl ⟨by decide, rfl⟩ hl0 h rfl rfl (by simp [Value.category]) ⟨(by show _ ≤ 6 + (lvl + 1); omega), (by show _ ≤ 100 + 30 * (lvl + 1); omega)⟩ (Nat.le_refl _) (Nat.le_refl _) (fun v9 M9 hq => ?_) (fun E9 M9 hq => ?_)
  · obtain ⟨h9, rfl⟩ := hq
    cases h9
    refine j_i2l K dL_lineState_8 ?_
    refine jLast K 0 v dL_lineState_9 rfl hl6 rfl (by decide) rfl ?_
    refine j_goto K 17 dL_lineState_10 (by decide) ?_
    refine j_iconst K 0 dL_lineState_17 rfl ?_
    refine j_iret K dL_lineState_18 ?_
    exact ⟨rfl, rfl⟩
  · exact absurd hq.1 (fun w => nomatch w)
set_option maxRecDepth 20000 in
set_option maxHeartbeats 400000 in
theorem wx_lineState_1 {l : Launch} {D : va_G} {ca : Nat → ClassId} {q0 : Nat} {sa : Nat → Nat} {ad : jAd} {lvl mc ms z z2 : Nat} {Lv Lv2 : jLv} {V V2 : jV} {Rf Rf2 : jR} (p0 p1 : Int32) (hl0 : Lv 0 0 = true) (h : jMet l D ca q0 sa ad yX5_lineState cX5_lineState 3 (some .int) lvl mc ms [.ref (ad 0 0), .int p0, .int p1] (z, Lv, V, Rf) (jExc "java/lang/IndexOutOfBoundsException" (z2, Lv2, V2, Rf2))) : jMetH l D ca q0 sa ad yL_lineState cL_lineState 5 (some .int) hL_lineState (lvl + 1) mc ms [.ref (ad 0 0), .int p0, .int p1, .ref (ad 60 0)] (z, Lv, V, Rf) (fun o M9 => o = .inl (some (.int 1)) ∧ M9.2 = (Lv2, V2, Rf2)) := by
  refine j_enterH RL [some (.ref (ad 0 0)), some (.int p0), some (.int p1), some (.ref (ad 60 0)), none] rfl (by decide) (by simp [Value.category]) (Nat.le_of_ble_eq_true rfl) rfl ?_
  intro p e s m args below meth c K hN hT
  refine j_aload_n K 3 dL_lineState_0 rfl rfl ?_
  refine j_iconst K 0 dL_lineState_1 rfl ?_
  refine j_aload_n K 0 dL_lineState_2 rfl rfl ?_
  refine j_iload_n K 1 dL_lineState_3 rfl rfl ?_
  refine j_iload_n K 2 dL_lineState_4 rfl rfl ?_
  refine j_callV K dL_lineState_5 m_X5_lineState v_X5_lineState k_L_110 rfl ⟨by decide, rfl⟩ hl0 h rfl rfl (by simp [Value.category]) ⟨(by show _ ≤ 6 + (lvl + 1); omega), (by show _ ≤ 100 + 30 * (lvl + 1); omega)⟩ (Nat.le_refl _) (Nat.le_refl _) (fun v9 M9 hq => ?_) (fun E9 M9 hq => ?_)
  · exact absurd hq.1 (fun w => nomatch w)
  · obtain ⟨h9, hM⟩ := hq
    cases h9
    refine j_catch K hN [] [] ⟨0, 10, 13, 28⟩ (hT.trans rfl) xn_IB (fun z hz => absurd hz List.not_mem_nil) (by decide) (by decide) xl_IB xc_IB (fun q => ?_)
    refine j_astore K dL_lineState_13 (by decide) ?_
    refine j_iconst K 1 dL_lineState_15 rfl ?_
    refine j_iret K dL_lineState_16 ?_
    exact ⟨rfl, hM⟩
set_option maxRecDepth 20000 in
set_option maxHeartbeats 400000 in
theorem wr_lineMinute {l : Launch} {D : va_G} {ca : Nat → ClassId} {q0 : Nat} {sa : Nat → Nat} {ad : jAd} {lvl mc ms z z2 : Nat} {Lv Lv2 : jLv} {V V2 : jV} {Rf Rf2 : jR} (p0 p1 : Int32) (v : Int32) (hl0 : Lv 0 0 = true) (hl6 : Lv2 60 0 = true) (h : jMet l D ca q0 sa ad yX5_lineMinute cX5_lineMinute 3 (some .int) lvl mc ms [.ref (ad 0 0), .int p0, .int p1] (z, Lv, V, Rf) (jRet (some (.int v)) (z2, Lv2, V2, Rf2))) : jMetH l D ca q0 sa ad yL_lineMinute cL_lineMinute 5 (some .int) hL_lineMinute (lvl + 1) mc ms [.ref (ad 0 0), .int p0, .int p1, .ref (ad 60 0)] (z, Lv, V, Rf) (fun o M9 => o = .inl (some (.int 0)) ∧ M9.2 = (Lv2, up V2 60 0 0 v, Rf2)) := by
  refine j_enterH RL [some (.ref (ad 0 0)), some (.int p0), some (.int p1), some (.ref (ad 60 0)), none] rfl (by decide) (by simp [Value.category]) (Nat.le_of_ble_eq_true rfl) rfl ?_
  intro p e s m args below meth c K hN hT
  refine j_aload_n K 3 dL_lineMinute_0 rfl rfl ?_
  refine j_iconst K 0 dL_lineMinute_1 rfl ?_
  refine j_aload_n K 0 dL_lineMinute_2 rfl rfl ?_
  refine j_iload_n K 1 dL_lineMinute_3 rfl rfl ?_
  refine j_iload_n K 2 dL_lineMinute_4 rfl rfl ?_
  refine j_callV K dL_lineMinute_5 m_X5_lineMinute v_X5_lineMinute k_L_113 rfl ⟨by decide, rfl⟩ hl0 h rfl rfl (by simp [Value.category]) ⟨(by show _ ≤ 6 + (lvl + 1); omega), (by show _ ≤ 100 + 30 * (lvl + 1); omega)⟩ (Nat.le_refl _) (Nat.le_refl _) (fun v9 M9 hq => ?_) (fun E9 M9 hq => ?_)
  · obtain ⟨h9, rfl⟩ := hq
    cases h9
    refine j_i2l K dL_lineMinute_8 ?_
    refine jLast K 0 v dL_lineMinute_9 rfl hl6 rfl (by decide) rfl ?_
    refine j_goto K 21 dL_lineMinute_10 (by decide) ?_
    refine j_iconst K 0 dL_lineMinute_21 rfl ?_
    refine j_iret K dL_lineMinute_22 ?_
    exact ⟨rfl, rfl⟩
  · exact absurd hq.1 (fun w => nomatch w)
set_option maxRecDepth 20000 in
set_option maxHeartbeats 400000 in
theorem wx_lineMinute_1 {l : Launch} {D : va_G} {ca : Nat → ClassId} {q0 : Nat} {sa : Nat → Nat} {ad : jAd} {lvl mc ms z z2 : Nat} {Lv Lv2 : jLv} {V V2 : jV} {Rf Rf2 : jR} (p0 p1 : Int32) (hl0 : Lv 0 0 = true) (h : jMet l D ca q0 sa ad yX5_lineMinute cX5_lineMinute 3 (some .int) lvl mc ms [.ref (ad 0 0), .int p0, .int p1] (z, Lv, V, Rf) (jExc "java/lang/IndexOutOfBoundsException" (z2, Lv2, V2, Rf2))) : jMetH l D ca q0 sa ad yL_lineMinute cL_lineMinute 5 (some .int) hL_lineMinute (lvl + 1) mc ms [.ref (ad 0 0), .int p0, .int p1, .ref (ad 60 0)] (z, Lv, V, Rf) (fun o M9 => o = .inl (some (.int 1)) ∧ M9.2 = (Lv2, V2, Rf2)) := by
  refine j_enterH RL [some (.ref (ad 0 0)), some (.int p0), some (.int p1), some (.ref (ad 60 0)), none] rfl (by decide) (by simp [Value.category]) (Nat.le_of_ble_eq_true rfl) rfl ?_
  intro p e s m args below meth c K hN hT
  refine j_aload_n K 3 dL_lineMinute_0 rfl rfl ?_
  refine j_iconst K 0 dL_lineMinute_1 rfl ?_
  refine j_aload_n K 0 dL_lineMinute_2 rfl rfl ?_
  refine j_iload_n K 1 dL_lineMinute_3 rfl rfl ?_
  refine j_iload_n K 2 dL_lineMinute_4 rfl rfl ?_
  refine j_callV K dL_lineMinute_5 m_X5_lineMinute v_X5_lineMinute k_L_113 rfl ⟨by decide, rfl⟩ hl0 h rfl rfl (by simp [Value.category]) ⟨(by show _ ≤ 6 + (lvl + 1); omega), (by show _ ≤ 100 + 30 * (lvl + 1); omega)⟩ (Nat.le_refl _) (Nat.le_refl _) (fun v9 M9 hq => ?_) (fun E9 M9 hq => ?_)
  · exact absurd hq.1 (fun w => nomatch w)
  · obtain ⟨h9, hM⟩ := hq
    cases h9
    refine j_catch K hN [] [⟨0, 10, 17, 65⟩] ⟨0, 10, 13, 28⟩ (hT.trans rfl) xn_IB (fun z hz => absurd hz List.not_mem_nil) (by decide) (by decide) xl_IB xc_IB (fun q => ?_)
    refine j_astore K dL_lineMinute_13 (by decide) ?_
    refine j_iconst K 1 dL_lineMinute_15 rfl ?_
    refine j_iret K dL_lineMinute_16 ?_
    exact ⟨rfl, hM⟩
set_option maxRecDepth 20000 in
set_option maxHeartbeats 400000 in
theorem wx_lineMinute_2 {l : Launch} {D : va_G} {ca : Nat → ClassId} {q0 : Nat} {sa : Nat → Nat} {ad : jAd} {lvl mc ms z z2 : Nat} {Lv Lv2 : jLv} {V V2 : jV} {Rf Rf2 : jR} (p0 p1 : Int32) (hl0 : Lv 0 0 = true) (h : jMet l D ca q0 sa ad yX5_lineMinute cX5_lineMinute 3 (some .int) lvl mc ms [.ref (ad 0 0), .int p0, .int p1] (z, Lv, V, Rf) (jExc ns_C (z2, Lv2, V2, Rf2))) : jMetH l D ca q0 sa ad yL_lineMinute cL_lineMinute 5 (some .int) hL_lineMinute (lvl + 1) mc ms [.ref (ad 0 0), .int p0, .int p1, .ref (ad 60 0)] (z, Lv, V, Rf) (fun o M9 => o = .inl (some (.int 2)) ∧ M9.2 = (Lv2, V2, Rf2)) := by
  refine j_enterH RL [some (.ref (ad 0 0)), some (.int p0), some (.int p1), some (.ref (ad 60 0)), none] rfl (by decide) (by simp [Value.category]) (Nat.le_of_ble_eq_true rfl) rfl ?_
  intro p e s m args below meth c K hN hT
  refine j_aload_n K 3 dL_lineMinute_0 rfl rfl ?_
  refine j_iconst K 0 dL_lineMinute_1 rfl ?_
  refine j_aload_n K 0 dL_lineMinute_2 rfl rfl ?_
  refine j_iload_n K 1 dL_lineMinute_3 rfl rfl ?_
  refine j_iload_n K 2 dL_lineMinute_4 rfl rfl ?_
  refine j_callV K dL_lineMinute_5 m_X5_lineMinute v_X5_lineMinute k_L_113 rfl ⟨by decide, rfl⟩ hl0 h rfl rfl (by simp [Value.category]) ⟨(by show _ ≤ 6 + (lvl + 1); omega), (by show _ ≤ 100 + 30 * (lvl + 1); omega)⟩ (Nat.le_refl _) (Nat.le_refl _) (fun v9 M9 hq => ?_) (fun E9 M9 hq => ?_)
  · exact absurd hq.1 (fun w => nomatch w)
  · obtain ⟨h9, hM⟩ := hq
    cases h9
    refine j_catch K hN [⟨0, 10, 13, 28⟩] [] ⟨0, 10, 17, 65⟩ (hT.trans rfl) xn_NS (fun z hz => by rw [List.mem_singleton.mp hz]; exact ⟨by decide, _, xn_IB, by decide +kernel, xl_IB⟩) (by decide) (by decide) xl_NS xc_NS (fun q => ?_)
    refine j_astore K dL_lineMinute_17 (by decide) ?_
    refine j_iconst K 2 dL_lineMinute_19 rfl ?_
    refine j_iret K dL_lineMinute_20 ?_
    exact ⟨rfl, hM⟩
set_option maxRecDepth 20000 in
set_option maxHeartbeats 400000 in
theorem wr_lineHeight {l : Launch} {D : va_G} {ca : Nat → ClassId} {q0 : Nat} {sa : Nat → Nat} {ad : jAd} {lvl mc ms z z2 : Nat} {Lv Lv2 : jLv} {V V2 : jV} {Rf Rf2 : jR} (p0 p1 : Int32) (v : Int32) (hl0 : Lv 0 0 = true) (hl6 : Lv2 60 0 = true) (h : jMet l D ca q0 sa ad yX5_lineHeight cX5_lineHeight 3 (some .int) lvl mc ms [.ref (ad 0 0), .int p0, .int p1] (z, Lv, V, Rf) (jRet (some (.int v)) (z2, Lv2, V2, Rf2))) : jMetH l D ca q0 sa ad yL_lineHeight cL_lineHeight 5 (some .int) hL_lineHeight (lvl + 1) mc ms [.ref (ad 0 0), .int p0, .int p1, .ref (ad 60 0)] (z, Lv, V, Rf) (fun o M9 => o = .inl (some (.int 0)) ∧ M9.2 = (Lv2, up V2 60 0 0 v, Rf2)) := by
  refine j_enterH RL [some (.ref (ad 0 0)), some (.int p0), some (.int p1), some (.ref (ad 60 0)), none] rfl (by decide) (by simp [Value.category]) (Nat.le_of_ble_eq_true rfl) rfl ?_
  intro p e s m args below meth c K hN hT
  refine j_aload_n K 3 dL_lineHeight_0 rfl rfl ?_
  refine j_iconst K 0 dL_lineHeight_1 rfl ?_
  refine j_aload_n K 0 dL_lineHeight_2 rfl rfl ?_
  refine j_iload_n K 1 dL_lineHeight_3 rfl rfl ?_
  refine j_iload_n K 2 dL_lineHeight_4 rfl rfl ?_
  refine j_callV K dL_lineHeight_5 m_X5_lineHeight v_X5_lineHeight k_L_116 rfl ⟨by decide, rfl⟩ hl0 h rfl rfl (by simp [Value.category]) ⟨(by show _ ≤ 6 + (lvl + 1); omega), (by show _ ≤ 100 + 30 * (lvl + 1); omega)⟩ (Nat.le_refl _) (Nat.le_refl _) (fun v9 M9 hq => ?_) (fun E9 M9 hq => ?_)
  · obtain ⟨h9, rfl⟩ := hq
    cases h9
    refine j_i2l K dL_lineHeight_8 ?_
    refine jLast K 0 v dL_lineHeight_9 rfl hl6 rfl (by decide) rfl ?_
    refine j_goto K 21 dL_lineHeight_10 (by decide) ?_
    refine j_iconst K 0 dL_lineHeight_21 rfl ?_
    refine j_iret K dL_lineHeight_22 ?_
    exact ⟨rfl, rfl⟩
  · exact absurd hq.1 (fun w => nomatch w)
set_option maxRecDepth 20000 in
set_option maxHeartbeats 400000 in
theorem wx_lineHeight_1 {l : Launch} {D : va_G} {ca : Nat → ClassId} {q0 : Nat} {sa : Nat → Nat} {ad : jAd} {lvl mc ms z z2 : Nat} {Lv Lv2 : jLv} {V V2 : jV} {Rf Rf2 : jR} (p0 p1 : Int32) (hl0 : Lv 0 0 = true) (h : jMet l D ca q0 sa ad yX5_lineHeight cX5_lineHeight 3 (some .int) lvl mc ms [.ref (ad 0 0), .int p0, .int p1] (z, Lv, V, Rf) (jExc "java/lang/IndexOutOfBoundsException" (z2, Lv2, V2, Rf2))) : jMetH l D ca q0 sa ad yL_lineHeight cL_lineHeight 5 (some .int) hL_lineHeight (lvl + 1) mc ms [.ref (ad 0 0), .int p0, .int p1, .ref (ad 60 0)] (z, Lv, V, Rf) (fun o M9 => o = .inl (some (.int 1)) ∧ M9.2 = (Lv2, V2, Rf2)) := by
  refine j_enterH RL [some (.ref (ad 0 0)), some (.int p0), some (.int p1), some (.ref (ad 60 0)), none] rfl (by decide) (by simp [Value.category]) (Nat.le_of_ble_eq_true rfl) rfl ?_
  intro p e s m args below meth c K hN hT
  refine j_aload_n K 3 dL_lineHeight_0 rfl rfl ?_
  refine j_iconst K 0 dL_lineHeight_1 rfl ?_
  refine j_aload_n K 0 dL_lineHeight_2 rfl rfl ?_
  refine j_iload_n K 1 dL_lineHeight_3 rfl rfl ?_
  refine j_iload_n K 2 dL_lineHeight_4 rfl rfl ?_
  refine j_callV K dL_lineHeight_5 m_X5_lineHeight v_X5_lineHeight k_L_116 rfl ⟨by decide, rfl⟩ hl0 h rfl rfl (by simp [Value.category]) ⟨(by show _ ≤ 6 + (lvl + 1); omega), (by show _ ≤ 100 + 30 * (lvl + 1); omega)⟩ (Nat.le_refl _) (Nat.le_refl _) (fun v9 M9 hq => ?_) (fun E9 M9 hq => ?_)
  · exact absurd hq.1 (fun w => nomatch w)
  · obtain ⟨h9, hM⟩ := hq
    cases h9
    refine j_catch K hN [] [⟨0, 10, 17, 65⟩] ⟨0, 10, 13, 28⟩ (hT.trans rfl) xn_IB (fun z hz => absurd hz List.not_mem_nil) (by decide) (by decide) xl_IB xc_IB (fun q => ?_)
    refine j_astore K dL_lineHeight_13 (by decide) ?_
    refine j_iconst K 1 dL_lineHeight_15 rfl ?_
    refine j_iret K dL_lineHeight_16 ?_
    exact ⟨rfl, hM⟩
set_option maxRecDepth 20000 in
set_option maxHeartbeats 400000 in
theorem wx_lineHeight_2 {l : Launch} {D : va_G} {ca : Nat → ClassId} {q0 : Nat} {sa : Nat → Nat} {ad : jAd} {lvl mc ms z z2 : Nat} {Lv Lv2 : jLv} {V V2 : jV} {Rf Rf2 : jR} (p0 p1 : Int32) (hl0 : Lv 0 0 = true) (h : jMet l D ca q0 sa ad yX5_lineHeight cX5_lineHeight 3 (some .int) lvl mc ms [.ref (ad 0 0), .int p0, .int p1] (z, Lv, V, Rf) (jExc ns_C (z2, Lv2, V2, Rf2))) : jMetH l D ca q0 sa ad yL_lineHeight cL_lineHeight 5 (some .int) hL_lineHeight (lvl + 1) mc ms [.ref (ad 0 0), .int p0, .int p1, .ref (ad 60 0)] (z, Lv, V, Rf) (fun o M9 => o = .inl (some (.int 2)) ∧ M9.2 = (Lv2, V2, Rf2)) := by
  refine j_enterH RL [some (.ref (ad 0 0)), some (.int p0), some (.int p1), some (.ref (ad 60 0)), none] rfl (by decide) (by simp [Value.category]) (Nat.le_of_ble_eq_true rfl) rfl ?_
  intro p e s m args below meth c K hN hT
  refine j_aload_n K 3 dL_lineHeight_0 rfl rfl ?_
  refine j_iconst K 0 dL_lineHeight_1 rfl ?_
  refine j_aload_n K 0 dL_lineHeight_2 rfl rfl ?_
  refine j_iload_n K 1 dL_lineHeight_3 rfl rfl ?_
  refine j_iload_n K 2 dL_lineHeight_4 rfl rfl ?_
  refine j_callV K dL_lineHeight_5 m_X5_lineHeight v_X5_lineHeight k_L_116 rfl ⟨by decide, rfl⟩ hl0 h rfl rfl (by simp [Value.category]) ⟨(by show _ ≤ 6 + (lvl + 1); omega), (by show _ ≤ 100 + 30 * (lvl + 1); omega)⟩ (Nat.le_refl _) (Nat.le_refl _) (fun v9 M9 hq => ?_) (fun E9 M9 hq => ?_)
  · exact absurd hq.1 (fun w => nomatch w)
  · obtain ⟨h9, hM⟩ := hq
    cases h9
    refine j_catch K hN [⟨0, 10, 13, 28⟩] [] ⟨0, 10, 17, 65⟩ (hT.trans rfl) xn_NS (fun z hz => by rw [List.mem_singleton.mp hz]; exact ⟨by decide, _, xn_IB, by decide +kernel, xl_IB⟩) (by decide) (by decide) xl_NS xc_NS (fun q => ?_)
    refine j_astore K dL_lineHeight_17 (by decide) ?_
    refine j_iconst K 2 dL_lineHeight_19 rfl ?_
    refine j_iret K dL_lineHeight_20 ?_
    exact ⟨rfl, hM⟩
set_option maxRecDepth 20000 in
set_option maxHeartbeats 400000 in
theorem wr_dripsOf {l : Launch} {D : va_G} {ca : Nat → ClassId} {q0 : Nat} {sa : Nat → Nat} {ad : jAd} {lvl mc ms z z2 : Nat} {Lv Lv2 : jLv} {V V2 : jV} {Rf Rf2 : jR} (p0 : Int32) (v : Int32) (hl0 : Lv 0 0 = true) (hl6 : Lv2 60 0 = true) (h : jMet l D ca q0 sa ad yX5_dripsOf cX5_dripsOf 2 (some .int) lvl mc ms [.ref (ad 0 0), .int p0] (z, Lv, V, Rf) (jRet (some (.int v)) (z2, Lv2, V2, Rf2))) : jMetH l D ca q0 sa ad yL_dripsOf cL_dripsOf 4 (some .int) hL_dripsOf (lvl + 1) mc ms [.ref (ad 0 0), .int p0, .ref (ad 60 0)] (z, Lv, V, Rf) (fun o M9 => o = .inl (some (.int 0)) ∧ M9.2 = (Lv2, up V2 60 0 0 v, Rf2)) := by
  refine j_enterH RL [some (.ref (ad 0 0)), some (.int p0), some (.ref (ad 60 0)), none] rfl (by decide) (by simp [Value.category]) (Nat.le_of_ble_eq_true rfl) rfl ?_
  intro p e s m args below meth c K hN hT
  refine j_aload_n K 2 dL_dripsOf_0 rfl rfl ?_
  refine j_iconst K 0 dL_dripsOf_1 rfl ?_
  refine j_aload_n K 0 dL_dripsOf_2 rfl rfl ?_
  refine j_iload_n K 1 dL_dripsOf_3 rfl rfl ?_
  refine j_callV K dL_dripsOf_4 m_X5_dripsOf v_X5_dripsOf k_L_119 rfl ⟨by decide, rfl⟩ hl0 h rfl rfl (by simp [Value.category]) ⟨(by show _ ≤ 6 + (lvl + 1); omega), (by show _ ≤ 100 + 30 * (lvl + 1); omega)⟩ (Nat.le_refl _) (Nat.le_refl _) (fun v9 M9 hq => ?_) (fun E9 M9 hq => ?_)
  · obtain ⟨h9, rfl⟩ := hq
    cases h9
    refine j_i2l K dL_dripsOf_7 ?_
    refine jLast K 0 v dL_dripsOf_8 rfl hl6 rfl (by decide) rfl ?_
    refine j_goto K 15 dL_dripsOf_9 (by decide) ?_
    refine j_iconst K 0 dL_dripsOf_15 rfl ?_
    refine j_iret K dL_dripsOf_16 ?_
    exact ⟨rfl, rfl⟩
  · exact absurd hq.1 (fun w => nomatch w)
set_option maxRecDepth 20000 in
set_option maxHeartbeats 400000 in
theorem wx_dripsOf_1 {l : Launch} {D : va_G} {ca : Nat → ClassId} {q0 : Nat} {sa : Nat → Nat} {ad : jAd} {lvl mc ms z z2 : Nat} {Lv Lv2 : jLv} {V V2 : jV} {Rf Rf2 : jR} (p0 : Int32) (hl0 : Lv 0 0 = true) (h : jMet l D ca q0 sa ad yX5_dripsOf cX5_dripsOf 2 (some .int) lvl mc ms [.ref (ad 0 0), .int p0] (z, Lv, V, Rf) (jExc "java/lang/IndexOutOfBoundsException" (z2, Lv2, V2, Rf2))) : jMetH l D ca q0 sa ad yL_dripsOf cL_dripsOf 4 (some .int) hL_dripsOf (lvl + 1) mc ms [.ref (ad 0 0), .int p0, .ref (ad 60 0)] (z, Lv, V, Rf) (fun o M9 => o = .inl (some (.int 1)) ∧ M9.2 = (Lv2, V2, Rf2)) := by
  refine j_enterH RL [some (.ref (ad 0 0)), some (.int p0), some (.ref (ad 60 0)), none] rfl (by decide) (by simp [Value.category]) (Nat.le_of_ble_eq_true rfl) rfl ?_
  intro p e s m args below meth c K hN hT
  refine j_aload_n K 2 dL_dripsOf_0 rfl rfl ?_
  refine j_iconst K 0 dL_dripsOf_1 rfl ?_
  refine j_aload_n K 0 dL_dripsOf_2 rfl rfl ?_
  refine j_iload_n K 1 dL_dripsOf_3 rfl rfl ?_
  refine j_callV K dL_dripsOf_4 m_X5_dripsOf v_X5_dripsOf k_L_119 rfl ⟨by decide, rfl⟩ hl0 h rfl rfl (by simp [Value.category]) ⟨(by show _ ≤ 6 + (lvl + 1); omega), (by show _ ≤ 100 + 30 * (lvl + 1); omega)⟩ (Nat.le_refl _) (Nat.le_refl _) (fun v9 M9 hq => ?_) (fun E9 M9 hq => ?_)
  · exact absurd hq.1 (fun w => nomatch w)
  · obtain ⟨h9, hM⟩ := hq
    cases h9
    refine j_catch K hN [] [] ⟨0, 9, 12, 28⟩ (hT.trans rfl) xn_IB (fun z hz => absurd hz List.not_mem_nil) (by decide) (by decide) xl_IB xc_IB (fun q => ?_)
    refine j_astore_n K 3 dL_dripsOf_12 rfl (by decide) ?_
    refine j_iconst K 1 dL_dripsOf_13 rfl ?_
    refine j_iret K dL_dripsOf_14 ?_
    exact ⟨rfl, hM⟩
set_option maxRecDepth 20000 in
set_option maxHeartbeats 400000 in
theorem wr_unreadableLines {l : Launch} {D : va_G} {ca : Nat → ClassId} {q0 : Nat} {sa : Nat → Nat} {ad : jAd} {lvl mc ms z z2 : Nat} {Lv Lv2 : jLv} {V V2 : jV} {Rf Rf2 : jR} (p0 : Int32) (v : Int32) (hl0 : Lv 0 0 = true) (hl6 : Lv2 60 0 = true) (h : jMet l D ca q0 sa ad yX5_unreadableLines cX5_unreadableLines 2 (some .int) lvl mc ms [.ref (ad 0 0), .int p0] (z, Lv, V, Rf) (jRet (some (.int v)) (z2, Lv2, V2, Rf2))) : jMetH l D ca q0 sa ad yL_unreadableLines cL_unreadableLines 4 (some .int) hL_unreadableLines (lvl + 1) mc ms [.ref (ad 0 0), .int p0, .ref (ad 60 0)] (z, Lv, V, Rf) (fun o M9 => o = .inl (some (.int 0)) ∧ M9.2 = (Lv2, up V2 60 0 0 v, Rf2)) := by
  refine j_enterH RL [some (.ref (ad 0 0)), some (.int p0), some (.ref (ad 60 0)), none] rfl (by decide) (by simp [Value.category]) (Nat.le_of_ble_eq_true rfl) rfl ?_
  intro p e s m args below meth c K hN hT
  refine j_aload_n K 2 dL_unreadableLines_0 rfl rfl ?_
  refine j_iconst K 0 dL_unreadableLines_1 rfl ?_
  refine j_aload_n K 0 dL_unreadableLines_2 rfl rfl ?_
  refine j_iload_n K 1 dL_unreadableLines_3 rfl rfl ?_
  refine j_callV K dL_unreadableLines_4 m_X5_unreadableLines v_X5_unreadableLines k_L_122 rfl ⟨by decide, rfl⟩ hl0 h rfl rfl (by simp [Value.category]) ⟨(by show _ ≤ 6 + (lvl + 1); omega), (by show _ ≤ 100 + 30 * (lvl + 1); omega)⟩ (Nat.le_refl _) (Nat.le_refl _) (fun v9 M9 hq => ?_) (fun E9 M9 hq => ?_)
  · obtain ⟨h9, rfl⟩ := hq
    cases h9
    refine j_i2l K dL_unreadableLines_7 ?_
    refine jLast K 0 v dL_unreadableLines_8 rfl hl6 rfl (by decide) rfl ?_
    refine j_goto K 15 dL_unreadableLines_9 (by decide) ?_
    refine j_iconst K 0 dL_unreadableLines_15 rfl ?_
    refine j_iret K dL_unreadableLines_16 ?_
    exact ⟨rfl, rfl⟩
  · exact absurd hq.1 (fun w => nomatch w)
set_option maxRecDepth 20000 in
set_option maxHeartbeats 400000 in
theorem wx_unreadableLines_1 {l : Launch} {D : va_G} {ca : Nat → ClassId} {q0 : Nat} {sa : Nat → Nat} {ad : jAd} {lvl mc ms z z2 : Nat} {Lv Lv2 : jLv} {V V2 : jV} {Rf Rf2 : jR} (p0 : Int32) (hl0 : Lv 0 0 = true) (h : jMet l D ca q0 sa ad yX5_unreadableLines cX5_unreadableLines 2 (some .int) lvl mc ms [.ref (ad 0 0), .int p0] (z, Lv, V, Rf) (jExc "java/lang/IndexOutOfBoundsException" (z2, Lv2, V2, Rf2))) : jMetH l D ca q0 sa ad yL_unreadableLines cL_unreadableLines 4 (some .int) hL_unreadableLines (lvl + 1) mc ms [.ref (ad 0 0), .int p0, .ref (ad 60 0)] (z, Lv, V, Rf) (fun o M9 => o = .inl (some (.int 1)) ∧ M9.2 = (Lv2, V2, Rf2)) := by
  refine j_enterH RL [some (.ref (ad 0 0)), some (.int p0), some (.ref (ad 60 0)), none] rfl (by decide) (by simp [Value.category]) (Nat.le_of_ble_eq_true rfl) rfl ?_
  intro p e s m args below meth c K hN hT
  refine j_aload_n K 2 dL_unreadableLines_0 rfl rfl ?_
  refine j_iconst K 0 dL_unreadableLines_1 rfl ?_
  refine j_aload_n K 0 dL_unreadableLines_2 rfl rfl ?_
  refine j_iload_n K 1 dL_unreadableLines_3 rfl rfl ?_
  refine j_callV K dL_unreadableLines_4 m_X5_unreadableLines v_X5_unreadableLines k_L_122 rfl ⟨by decide, rfl⟩ hl0 h rfl rfl (by simp [Value.category]) ⟨(by show _ ≤ 6 + (lvl + 1); omega), (by show _ ≤ 100 + 30 * (lvl + 1); omega)⟩ (Nat.le_refl _) (Nat.le_refl _) (fun v9 M9 hq => ?_) (fun E9 M9 hq => ?_)
  · exact absurd hq.1 (fun w => nomatch w)
  · obtain ⟨h9, hM⟩ := hq
    cases h9
    refine j_catch K hN [] [] ⟨0, 9, 12, 28⟩ (hT.trans rfl) xn_IB (fun z hz => absurd hz List.not_mem_nil) (by decide) (by decide) xl_IB xc_IB (fun q => ?_)
    refine j_astore_n K 3 dL_unreadableLines_12 rfl (by decide) ?_
    refine j_iconst K 1 dL_unreadableLines_13 rfl ?_
    refine j_iret K dL_unreadableLines_14 ?_
    exact ⟨rfl, hM⟩
set_option maxRecDepth 20000 in
set_option maxHeartbeats 400000 in
theorem wr_isRight {l : Launch} {D : va_G} {ca : Nat → ClassId} {q0 : Nat} {sa : Nat → Nat} {ad : jAd} {lvl mc ms z z2 : Nat} {Lv Lv2 : jLv} {V V2 : jV} {Rf Rf2 : jR} (p0 : Int32) (v : Int32) (hb : v = 0 ∨ v = 1) (hl0 : Lv 0 0 = true) (hl6 : Lv2 60 0 = true) (h : jMet l D ca q0 sa ad yX5_isRight cX5_isRight 2 (some .boolean) lvl mc ms [.ref (ad 0 0), .int p0] (z, Lv, V, Rf) (jRet (some (.int v)) (z2, Lv2, V2, Rf2))) : jMetH l D ca q0 sa ad yL_isRight cL_isRight 4 (some .int) hL_isRight (lvl + 1) mc ms [.ref (ad 0 0), .int p0, .ref (ad 60 0)] (z, Lv, V, Rf) (fun o M9 => o = .inl (some (.int 0)) ∧ M9.2 = (Lv2, up V2 60 0 0 v, Rf2)) := by
  refine j_enterH RL [some (.ref (ad 0 0)), some (.int p0), some (.ref (ad 60 0)), none] rfl (by decide) (by simp [Value.category]) (Nat.le_of_ble_eq_true rfl) rfl ?_
  intro p e s m args below meth c K hN hT
  refine j_aload_n K 2 dL_isRight_0 rfl rfl ?_
  refine j_iconst K 0 dL_isRight_1 rfl ?_
  refine j_aload_n K 0 dL_isRight_2 rfl rfl ?_
  refine j_iload_n K 1 dL_isRight_3 rfl rfl ?_
  refine j_callV K dL_isRight_4 m_X5_isRight v_X5_isRight k_L_125 rfl ⟨by decide, rfl⟩ hl0 h rfl rfl (by simp [Value.category]) ⟨(by show _ ≤ 6 + (lvl + 1); omega), (by show _ ≤ 100 + 30 * (lvl + 1); omega)⟩ (Nat.le_refl _) (Nat.le_refl _) (fun v9 M9 hq => ?_) (fun E9 M9 hq => ?_)
  · obtain ⟨h9, rfl⟩ := hq
    cases h9
    refine j_if_eq K 14 dL_isRight_7 (by decide) (fun hz => ?_) (fun hz => ?_)
    · refine j_lconst K 0 dL_isRight_14 rfl ?_
      refine jLast K 0 v dL_isRight_15 rfl hl6 rfl (by decide) (by rw [hz]; rfl) ?_
      refine j_goto K 22 dL_isRight_16 (by decide) ?_
      refine j_iconst K 0 dL_isRight_22 rfl ?_
      refine j_iret K dL_isRight_23 ?_
      exact ⟨rfl, rfl⟩
    · refine j_lconst K 1 dL_isRight_10 rfl ?_
      refine j_goto K 15 dL_isRight_11 (by decide) ?_
      refine jLast K 0 v dL_isRight_15 rfl hl6 rfl (by decide) (by rw [hb.resolve_left hz]; rfl) ?_
      refine j_goto K 22 dL_isRight_16 (by decide) ?_
      refine j_iconst K 0 dL_isRight_22 rfl ?_
      refine j_iret K dL_isRight_23 ?_
      exact ⟨rfl, rfl⟩
  · exact absurd hq.1 (fun w => nomatch w)
set_option maxRecDepth 20000 in
set_option maxHeartbeats 400000 in
theorem wx_isRight_1 {l : Launch} {D : va_G} {ca : Nat → ClassId} {q0 : Nat} {sa : Nat → Nat} {ad : jAd} {lvl mc ms z z2 : Nat} {Lv Lv2 : jLv} {V V2 : jV} {Rf Rf2 : jR} (p0 : Int32) (hl0 : Lv 0 0 = true) (h : jMet l D ca q0 sa ad yX5_isRight cX5_isRight 2 (some .boolean) lvl mc ms [.ref (ad 0 0), .int p0] (z, Lv, V, Rf) (jExc "java/lang/IndexOutOfBoundsException" (z2, Lv2, V2, Rf2))) : jMetH l D ca q0 sa ad yL_isRight cL_isRight 4 (some .int) hL_isRight (lvl + 1) mc ms [.ref (ad 0 0), .int p0, .ref (ad 60 0)] (z, Lv, V, Rf) (fun o M9 => o = .inl (some (.int 1)) ∧ M9.2 = (Lv2, V2, Rf2)) := by
  refine j_enterH RL [some (.ref (ad 0 0)), some (.int p0), some (.ref (ad 60 0)), none] rfl (by decide) (by simp [Value.category]) (Nat.le_of_ble_eq_true rfl) rfl ?_
  intro p e s m args below meth c K hN hT
  refine j_aload_n K 2 dL_isRight_0 rfl rfl ?_
  refine j_iconst K 0 dL_isRight_1 rfl ?_
  refine j_aload_n K 0 dL_isRight_2 rfl rfl ?_
  refine j_iload_n K 1 dL_isRight_3 rfl rfl ?_
  refine j_callV K dL_isRight_4 m_X5_isRight v_X5_isRight k_L_125 rfl ⟨by decide, rfl⟩ hl0 h rfl rfl (by simp [Value.category]) ⟨(by show _ ≤ 6 + (lvl + 1); omega), (by show _ ≤ 100 + 30 * (lvl + 1); omega)⟩ (Nat.le_refl _) (Nat.le_refl _) (fun v9 M9 hq => ?_) (fun E9 M9 hq => ?_)
  · exact absurd hq.1 (fun w => nomatch w)
  · obtain ⟨h9, hM⟩ := hq
    cases h9
    refine j_catch K hN [] [] ⟨0, 16, 19, 28⟩ (hT.trans rfl) xn_IB (fun z hz => absurd hz List.not_mem_nil) (by decide) (by decide) xl_IB xc_IB (fun q => ?_)
    refine j_astore_n K 3 dL_isRight_19 rfl (by decide) ?_
    refine j_iconst K 1 dL_isRight_20 rfl ?_
    refine j_iret K dL_isRight_21 ?_
    exact ⟨rfl, hM⟩
