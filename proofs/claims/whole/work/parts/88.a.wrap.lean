set_option maxRecDepth 20000 in
set_option maxHeartbeats 400000 in
theorem wr_addPier {l : Launch} {D : va_G} {ca : Nat → ClassId} {q0 : Nat} {sa : Nat → Nat} {ad : jAd} {lvl mc ms z z2 : Nat} {Lv Lv2 : jLv} {V V2 : jV} {Rf Rf2 : jR} (p0 p1 p2 p3 p4 : Int32) (v : Int32) (hl0 : Lv 0 0 = true) (hl6 : Lv2 60 0 = true) (h : jMet l D ca q0 sa ad yX5_addPier cX5_addPier 7 (some .int) lvl mc ms [.ref (ad 0 0), .int p0, .int p1, .int p2, .int p3, .int p4] (z, Lv, V, Rf) (jRet (some (.int v)) (z2, Lv2, V2, Rf2))) : jMetH l D ca q0 sa ad yL_addPier cL_addPier 8 (some .int) hL_addPier (lvl + 1) mc ms [.ref (ad 0 0), .int p0, .int p1, .int p2, .int p3, .int p4, .ref (ad 60 0)] (z, Lv, V, Rf) (fun o M9 => o = .inl (some (.int 0)) ∧ M9.2 = (Lv2, up V2 60 0 0 v, Rf2)) := by
  refine j_enterH RL [some (.ref (ad 0 0)), some (.int p0), some (.int p1), some (.int p2), some (.int p3), some (.int p4), some (.ref (ad 60 0)), none] rfl (by decide) (by simp [Value.category]) (Nat.le_of_ble_eq_true rfl) rfl ?_
  intro p e s m args below meth c K hN hT
  refine j_aload K dL_addPier_0 rfl ?_
  refine j_iconst K 0 dL_addPier_2 rfl ?_
  refine j_aload_n K 0 dL_addPier_3 rfl rfl ?_
  refine j_iload_n K 1 dL_addPier_4 rfl rfl ?_
  refine j_iload_n K 2 dL_addPier_5 rfl rfl ?_
  refine j_iload_n K 3 dL_addPier_6 rfl rfl ?_
  refine j_iload K dL_addPier_7 rfl ?_
  refine j_iload K dL_addPier_9 rfl ?_
  refine j_callV K dL_addPier_11 m_X5_addPier v_X5_addPier k_L_7 rfl ⟨by decide, rfl⟩ hl0 h rfl rfl (by simp [Value.category]) ⟨(by show _ ≤ 6 + (lvl + 1); omega), (by show _ ≤ 100 + 30 * (lvl + 1); omega)⟩ (Nat.le_refl _) (Nat.le_refl _) (fun v9 M9 hq => ?_) (fun E9 M9 hq => ?_)
  · obtain ⟨h9, rfl⟩ := hq
    cases h9
    refine j_i2l K dL_addPier_14 ?_
    refine jLast K 0 v dL_addPier_15 rfl hl6 rfl (by decide) rfl ?_
    refine j_goto K 27 dL_addPier_16 (by decide) ?_
    refine j_iconst K 0 dL_addPier_27 rfl ?_
    refine j_iret K dL_addPier_28 ?_
    exact ⟨rfl, rfl⟩
  · exact absurd hq.1 (fun w => nomatch w)
set_option maxRecDepth 20000 in
set_option maxHeartbeats 400000 in
theorem wx_addPier_1 {l : Launch} {D : va_G} {ca : Nat → ClassId} {q0 : Nat} {sa : Nat → Nat} {ad : jAd} {lvl mc ms z z2 : Nat} {Lv Lv2 : jLv} {V V2 : jV} {Rf Rf2 : jR} (p0 p1 p2 p3 p4 : Int32) (hl0 : Lv 0 0 = true) (h : jMet l D ca q0 sa ad yX5_addPier cX5_addPier 7 (some .int) lvl mc ms [.ref (ad 0 0), .int p0, .int p1, .int p2, .int p3, .int p4] (z, Lv, V, Rf) (jExc "java/lang/IllegalArgumentException" (z2, Lv2, V2, Rf2))) : jMetH l D ca q0 sa ad yL_addPier cL_addPier 8 (some .int) hL_addPier (lvl + 1) mc ms [.ref (ad 0 0), .int p0, .int p1, .int p2, .int p3, .int p4, .ref (ad 60 0)] (z, Lv, V, Rf) (fun o M9 => o = .inl (some (.int 1)) ∧ M9.2 = (Lv2, V2, Rf2)) := by
  refine j_enterH RL [some (.ref (ad 0 0)), some (.int p0), some (.int p1), some (.int p2), some (.int p3), some (.int p4), some (.ref (ad 60 0)), none] rfl (by decide) (by simp [Value.category]) (Nat.le_of_ble_eq_true rfl) rfl ?_
  intro p e s m args below meth c K hN hT
  refine j_aload K dL_addPier_0 rfl ?_
  refine j_iconst K 0 dL_addPier_2 rfl ?_
  refine j_aload_n K 0 dL_addPier_3 rfl rfl ?_
  refine j_iload_n K 1 dL_addPier_4 rfl rfl ?_
  refine j_iload_n K 2 dL_addPier_5 rfl rfl ?_
  refine j_iload_n K 3 dL_addPier_6 rfl rfl ?_
  refine j_iload K dL_addPier_7 rfl ?_
  refine j_iload K dL_addPier_9 rfl ?_
  refine j_callV K dL_addPier_11 m_X5_addPier v_X5_addPier k_L_7 rfl ⟨by decide, rfl⟩ hl0 h rfl rfl (by simp [Value.category]) ⟨(by show _ ≤ 6 + (lvl + 1); omega), (by show _ ≤ 100 + 30 * (lvl + 1); omega)⟩ (Nat.le_refl _) (Nat.le_refl _) (fun v9 M9 hq => ?_) (fun E9 M9 hq => ?_)
  · exact absurd hq.1 (fun w => nomatch w)
  · obtain ⟨h9, hM⟩ := hq
    cases h9
    refine j_catch K hN [] [⟨0, 16, 23, 15⟩] ⟨0, 16, 19, 13⟩ (hT.trans rfl) xn_IA (fun z hz => absurd hz List.not_mem_nil) (by decide) (by decide) xl_IA xc_IA (fun q => ?_)
    refine j_astore K dL_addPier_19 (by decide) ?_
    refine j_iconst K 1 dL_addPier_21 rfl ?_
    refine j_iret K dL_addPier_22 ?_
    exact ⟨rfl, hM⟩
set_option maxRecDepth 20000 in
set_option maxHeartbeats 400000 in
theorem wx_addPier_2 {l : Launch} {D : va_G} {ca : Nat → ClassId} {q0 : Nat} {sa : Nat → Nat} {ad : jAd} {lvl mc ms z z2 : Nat} {Lv Lv2 : jLv} {V V2 : jV} {Rf Rf2 : jR} (p0 p1 p2 p3 p4 : Int32) (hl0 : Lv 0 0 = true) (h : jMet l D ca q0 sa ad yX5_addPier cX5_addPier 7 (some .int) lvl mc ms [.ref (ad 0 0), .int p0, .int p1, .int p2, .int p3, .int p4] (z, Lv, V, Rf) (jExc "java/lang/IllegalStateException" (z2, Lv2, V2, Rf2))) : jMetH l D ca q0 sa ad yL_addPier cL_addPier 8 (some .int) hL_addPier (lvl + 1) mc ms [.ref (ad 0 0), .int p0, .int p1, .int p2, .int p3, .int p4, .ref (ad 60 0)] (z, Lv, V, Rf) (fun o M9 => o = .inl (some (.int 2)) ∧ M9.2 = (Lv2, V2, Rf2)) := by
  refine j_enterH RL [some (.ref (ad 0 0)), some (.int p0), some (.int p1), some (.int p2), some (.int p3), some (.int p4), some (.ref (ad 60 0)), none] rfl (by decide) (by simp [Value.category]) (Nat.le_of_ble_eq_true rfl) rfl ?_
  intro p e s m args below meth c K hN hT
  refine j_aload K dL_addPier_0 rfl ?_
  refine j_iconst K 0 dL_addPier_2 rfl ?_
  refine j_aload_n K 0 dL_addPier_3 rfl rfl ?_
  refine j_iload_n K 1 dL_addPier_4 rfl rfl ?_
  refine j_iload_n K 2 dL_addPier_5 rfl rfl ?_
  refine j_iload_n K 3 dL_addPier_6 rfl rfl ?_
  refine j_iload K dL_addPier_7 rfl ?_
  refine j_iload K dL_addPier_9 rfl ?_
  refine j_callV K dL_addPier_11 m_X5_addPier v_X5_addPier k_L_7 rfl ⟨by decide, rfl⟩ hl0 h rfl rfl (by simp [Value.category]) ⟨(by show _ ≤ 6 + (lvl + 1); omega), (by show _ ≤ 100 + 30 * (lvl + 1); omega)⟩ (Nat.le_refl _) (Nat.le_refl _) (fun v9 M9 hq => ?_) (fun E9 M9 hq => ?_)
  · exact absurd hq.1 (fun w => nomatch w)
  · obtain ⟨h9, hM⟩ := hq
    cases h9
    refine j_catch K hN [⟨0, 16, 19, 13⟩] [] ⟨0, 16, 23, 15⟩ (hT.trans rfl) xn_IS (fun z hz => by rw [List.mem_singleton.mp hz]; exact ⟨by decide, _, xn_IA, by decide +kernel, xl_IA⟩) (by decide) (by decide) xl_IS xc_IS (fun q => ?_)
    refine j_astore K dL_addPier_23 (by decide) ?_
    refine j_iconst K 2 dL_addPier_25 rfl ?_
    refine j_iret K dL_addPier_26 ?_
    exact ⟨rfl, hM⟩
set_option maxRecDepth 20000 in
set_option maxHeartbeats 400000 in
theorem wr_passDays {l : Launch} {D : va_G} {ca : Nat → ClassId} {q0 : Nat} {sa : Nat → Nat} {ad : jAd} {lvl mc ms z z2 : Nat} {Lv Lv2 : jLv} {V V2 : jV} {Rf Rf2 : jR} (p0 : Int32) (v : Int32) (hl0 : Lv 0 0 = true) (hl6 : Lv2 60 0 = true) (h : jMet l D ca q0 sa ad yX5_passDays cX5_passDays 3 (some .int) lvl mc ms [.ref (ad 0 0), .int p0] (z, Lv, V, Rf) (jRet (some (.int v)) (z2, Lv2, V2, Rf2))) : jMetH l D ca q0 sa ad yL_passDays cL_passDays 4 (some .int) hL_passDays (lvl + 1) mc ms [.ref (ad 0 0), .int p0, .ref (ad 60 0)] (z, Lv, V, Rf) (fun o M9 => o = .inl (some (.int 0)) ∧ M9.2 = (Lv2, up V2 60 0 0 v, Rf2)) := by
  refine j_enterH RL [some (.ref (ad 0 0)), some (.int p0), some (.ref (ad 60 0)), none] rfl (by decide) (by simp [Value.category]) (Nat.le_of_ble_eq_true rfl) rfl ?_
  intro p e s m args below meth c K hN hT
  refine j_aload_n K 2 dL_passDays_0 rfl rfl ?_
  refine j_iconst K 0 dL_passDays_1 rfl ?_
  refine j_aload_n K 0 dL_passDays_2 rfl rfl ?_
  refine j_iload_n K 1 dL_passDays_3 rfl rfl ?_
  refine j_callV K dL_passDays_4 m_X5_passDays v_X5_passDays k_L_17 rfl ⟨by decide, rfl⟩ hl0 h rfl rfl (by simp [Value.category]) ⟨(by show _ ≤ 6 + (lvl + 1); omega), (by show _ ≤ 100 + 30 * (lvl + 1); omega)⟩ (Nat.le_refl _) (Nat.le_refl _) (fun v9 M9 hq => ?_) (fun E9 M9 hq => ?_)
  · obtain ⟨h9, rfl⟩ := hq
    cases h9
    refine j_i2l K dL_passDays_7 ?_
    refine jLast K 0 v dL_passDays_8 rfl hl6 rfl (by decide) rfl ?_
    refine j_goto K 15 dL_passDays_9 (by decide) ?_
    refine j_iconst K 0 dL_passDays_15 rfl ?_
    refine j_iret K dL_passDays_16 ?_
    exact ⟨rfl, rfl⟩
  · exact absurd hq.1 (fun w => nomatch w)
set_option maxRecDepth 20000 in
set_option maxHeartbeats 400000 in
theorem wx_passDays_1 {l : Launch} {D : va_G} {ca : Nat → ClassId} {q0 : Nat} {sa : Nat → Nat} {ad : jAd} {lvl mc ms z z2 : Nat} {Lv Lv2 : jLv} {V V2 : jV} {Rf Rf2 : jR} (p0 : Int32) (hl0 : Lv 0 0 = true) (h : jMet l D ca q0 sa ad yX5_passDays cX5_passDays 3 (some .int) lvl mc ms [.ref (ad 0 0), .int p0] (z, Lv, V, Rf) (jExc "java/lang/IllegalArgumentException" (z2, Lv2, V2, Rf2))) : jMetH l D ca q0 sa ad yL_passDays cL_passDays 4 (some .int) hL_passDays (lvl + 1) mc ms [.ref (ad 0 0), .int p0, .ref (ad 60 0)] (z, Lv, V, Rf) (fun o M9 => o = .inl (some (.int 1)) ∧ M9.2 = (Lv2, V2, Rf2)) := by
  refine j_enterH RL [some (.ref (ad 0 0)), some (.int p0), some (.ref (ad 60 0)), none] rfl (by decide) (by simp [Value.category]) (Nat.le_of_ble_eq_true rfl) rfl ?_
  intro p e s m args below meth c K hN hT
  refine j_aload_n K 2 dL_passDays_0 rfl rfl ?_
  refine j_iconst K 0 dL_passDays_1 rfl ?_
  refine j_aload_n K 0 dL_passDays_2 rfl rfl ?_
  refine j_iload_n K 1 dL_passDays_3 rfl rfl ?_
  refine j_callV K dL_passDays_4 m_X5_passDays v_X5_passDays k_L_17 rfl ⟨by decide, rfl⟩ hl0 h rfl rfl (by simp [Value.category]) ⟨(by show _ ≤ 6 + (lvl + 1); omega), (by show _ ≤ 100 + 30 * (lvl + 1); omega)⟩ (Nat.le_refl _) (Nat.le_refl _) (fun v9 M9 hq => ?_) (fun E9 M9 hq => ?_)
  · exact absurd hq.1 (fun w => nomatch w)
  · obtain ⟨h9, hM⟩ := hq
    cases h9
    refine j_catch K hN [] [] ⟨0, 9, 12, 13⟩ (hT.trans rfl) xn_IA (fun z hz => absurd hz List.not_mem_nil) (by decide) (by decide) xl_IA xc_IA (fun q => ?_)
    refine j_astore_n K 3 dL_passDays_12 rfl (by decide) ?_
    refine j_iconst K 1 dL_passDays_13 rfl ?_
    refine j_iret K dL_passDays_14 ?_
    exact ⟨rfl, hM⟩
set_option maxRecDepth 20000 in
set_option maxHeartbeats 400000 in
theorem wr_moonAge {l : Launch} {D : va_G} {ca : Nat → ClassId} {q0 : Nat} {sa : Nat → Nat} {ad : jAd} {lvl mc ms z z2 : Nat} {Lv Lv2 : jLv} {V V2 : jV} {Rf Rf2 : jR} (p0 : Int32) (v : Int32) (hl0 : Lv 0 0 = true) (hl6 : Lv2 60 0 = true) (h : jMet l D ca q0 sa ad yX5_moonAge cX5_moonAge 2 (some .int) lvl mc ms [.ref (ad 0 0), .int p0] (z, Lv, V, Rf) (jRet (some (.int v)) (z2, Lv2, V2, Rf2))) : jMetH l D ca q0 sa ad yL_moonAge cL_moonAge 4 (some .int) hL_moonAge (lvl + 1) mc ms [.ref (ad 0 0), .int p0, .ref (ad 60 0)] (z, Lv, V, Rf) (fun o M9 => o = .inl (some (.int 0)) ∧ M9.2 = (Lv2, up V2 60 0 0 v, Rf2)) := by
  refine j_enterH RL [some (.ref (ad 0 0)), some (.int p0), some (.ref (ad 60 0)), none] rfl (by decide) (by simp [Value.category]) (Nat.le_of_ble_eq_true rfl) rfl ?_
  intro p e s m args below meth c K hN hT
  refine j_aload_n K 2 dL_moonAge_0 rfl rfl ?_
  refine j_iconst K 0 dL_moonAge_1 rfl ?_
  refine j_aload_n K 0 dL_moonAge_2 rfl rfl ?_
  refine j_iload_n K 1 dL_moonAge_3 rfl rfl ?_
  refine j_callV K dL_moonAge_4 m_X5_moonAge v_X5_moonAge k_L_21 rfl ⟨by decide, rfl⟩ hl0 h rfl rfl (by simp [Value.category]) ⟨(by show _ ≤ 6 + (lvl + 1); omega), (by show _ ≤ 100 + 30 * (lvl + 1); omega)⟩ (Nat.le_refl _) (Nat.le_refl _) (fun v9 M9 hq => ?_) (fun E9 M9 hq => ?_)
  · obtain ⟨h9, rfl⟩ := hq
    cases h9
    refine j_i2l K dL_moonAge_7 ?_
    refine jLast K 0 v dL_moonAge_8 rfl hl6 rfl (by decide) rfl ?_
    refine j_goto K 15 dL_moonAge_9 (by decide) ?_
    refine j_iconst K 0 dL_moonAge_15 rfl ?_
    refine j_iret K dL_moonAge_16 ?_
    exact ⟨rfl, rfl⟩
  · exact absurd hq.1 (fun w => nomatch w)
set_option maxRecDepth 20000 in
set_option maxHeartbeats 400000 in
theorem wx_moonAge_1 {l : Launch} {D : va_G} {ca : Nat → ClassId} {q0 : Nat} {sa : Nat → Nat} {ad : jAd} {lvl mc ms z z2 : Nat} {Lv Lv2 : jLv} {V V2 : jV} {Rf Rf2 : jR} (p0 : Int32) (hl0 : Lv 0 0 = true) (h : jMet l D ca q0 sa ad yX5_moonAge cX5_moonAge 2 (some .int) lvl mc ms [.ref (ad 0 0), .int p0] (z, Lv, V, Rf) (jExc "java/lang/IllegalArgumentException" (z2, Lv2, V2, Rf2))) : jMetH l D ca q0 sa ad yL_moonAge cL_moonAge 4 (some .int) hL_moonAge (lvl + 1) mc ms [.ref (ad 0 0), .int p0, .ref (ad 60 0)] (z, Lv, V, Rf) (fun o M9 => o = .inl (some (.int 1)) ∧ M9.2 = (Lv2, V2, Rf2)) := by
  refine j_enterH RL [some (.ref (ad 0 0)), some (.int p0), some (.ref (ad 60 0)), none] rfl (by decide) (by simp [Value.category]) (Nat.le_of_ble_eq_true rfl) rfl ?_
  intro p e s m args below meth c K hN hT
  refine j_aload_n K 2 dL_moonAge_0 rfl rfl ?_
  refine j_iconst K 0 dL_moonAge_1 rfl ?_
  refine j_aload_n K 0 dL_moonAge_2 rfl rfl ?_
  refine j_iload_n K 1 dL_moonAge_3 rfl rfl ?_
  refine j_callV K dL_moonAge_4 m_X5_moonAge v_X5_moonAge k_L_21 rfl ⟨by decide, rfl⟩ hl0 h rfl rfl (by simp [Value.category]) ⟨(by show _ ≤ 6 + (lvl + 1); omega), (by show _ ≤ 100 + 30 * (lvl + 1); omega)⟩ (Nat.le_refl _) (Nat.le_refl _) (fun v9 M9 hq => ?_) (fun E9 M9 hq => ?_)
  · exact absurd hq.1 (fun w => nomatch w)
  · obtain ⟨h9, hM⟩ := hq
    cases h9
    refine j_catch K hN [] [] ⟨0, 9, 12, 13⟩ (hT.trans rfl) xn_IA (fun z hz => absurd hz List.not_mem_nil) (by decide) (by decide) xl_IA xc_IA (fun q => ?_)
    refine j_astore_n K 3 dL_moonAge_12 rfl (by decide) ?_
    refine j_iconst K 1 dL_moonAge_13 rfl ?_
    refine j_iret K dL_moonAge_14 ?_
    exact ⟨rfl, hM⟩
set_option maxRecDepth 20000 in
set_option maxHeartbeats 400000 in
theorem wr_rangeOf {l : Launch} {D : va_G} {ca : Nat → ClassId} {q0 : Nat} {sa : Nat → Nat} {ad : jAd} {lvl mc ms z z2 : Nat} {Lv Lv2 : jLv} {V V2 : jV} {Rf Rf2 : jR} (p0 p1 : Int32) (v : Int32) (hl0 : Lv 0 0 = true) (hl6 : Lv2 60 0 = true) (h : jMet l D ca q0 sa ad yX5_rangeOf cX5_rangeOf 4 (some .int) lvl mc ms [.ref (ad 0 0), .int p0, .int p1] (z, Lv, V, Rf) (jRet (some (.int v)) (z2, Lv2, V2, Rf2))) : jMetH l D ca q0 sa ad yL_rangeOf cL_rangeOf 5 (some .int) hL_rangeOf (lvl + 1) mc ms [.ref (ad 0 0), .int p0, .int p1, .ref (ad 60 0)] (z, Lv, V, Rf) (fun o M9 => o = .inl (some (.int 0)) ∧ M9.2 = (Lv2, up V2 60 0 0 v, Rf2)) := by
  refine j_enterH RL [some (.ref (ad 0 0)), some (.int p0), some (.int p1), some (.ref (ad 60 0)), none] rfl (by decide) (by simp [Value.category]) (Nat.le_of_ble_eq_true rfl) rfl ?_
  intro p e s m args below meth c K hN hT
  refine j_aload_n K 3 dL_rangeOf_0 rfl rfl ?_
  refine j_iconst K 0 dL_rangeOf_1 rfl ?_
  refine j_aload_n K 0 dL_rangeOf_2 rfl rfl ?_
  refine j_iload_n K 1 dL_rangeOf_3 rfl rfl ?_
  refine j_iload_n K 2 dL_rangeOf_4 rfl rfl ?_
  refine j_callV K dL_rangeOf_5 m_X5_rangeOf v_X5_rangeOf k_L_24 rfl ⟨by decide, rfl⟩ hl0 h rfl rfl (by simp [Value.category]) ⟨(by show _ ≤ 6 + (lvl + 1); omega), (by show _ ≤ 100 + 30 * (lvl + 1); omega)⟩ (Nat.le_refl _) (Nat.le_refl _) (fun v9 M9 hq => ?_) (fun E9 M9 hq => ?_)
  · obtain ⟨h9, rfl⟩ := hq
    cases h9
    refine j_i2l K dL_rangeOf_8 ?_
    refine jLast K 0 v dL_rangeOf_9 rfl hl6 rfl (by decide) rfl ?_
    refine j_goto K 21 dL_rangeOf_10 (by decide) ?_
    refine j_iconst K 0 dL_rangeOf_21 rfl ?_
    refine j_iret K dL_rangeOf_22 ?_
    exact ⟨rfl, rfl⟩
  · exact absurd hq.1 (fun w => nomatch w)
set_option maxRecDepth 20000 in
set_option maxHeartbeats 400000 in
theorem wx_rangeOf_1 {l : Launch} {D : va_G} {ca : Nat → ClassId} {q0 : Nat} {sa : Nat → Nat} {ad : jAd} {lvl mc ms z z2 : Nat} {Lv Lv2 : jLv} {V V2 : jV} {Rf Rf2 : jR} (p0 p1 : Int32) (hl0 : Lv 0 0 = true) (h : jMet l D ca q0 sa ad yX5_rangeOf cX5_rangeOf 4 (some .int) lvl mc ms [.ref (ad 0 0), .int p0, .int p1] (z, Lv, V, Rf) (jExc "java/lang/IndexOutOfBoundsException" (z2, Lv2, V2, Rf2))) : jMetH l D ca q0 sa ad yL_rangeOf cL_rangeOf 5 (some .int) hL_rangeOf (lvl + 1) mc ms [.ref (ad 0 0), .int p0, .int p1, .ref (ad 60 0)] (z, Lv, V, Rf) (fun o M9 => o = .inl (some (.int 1)) ∧ M9.2 = (Lv2, V2, Rf2)) := by
  refine j_enterH RL [some (.ref (ad 0 0)), some (.int p0), some (.int p1), some (.ref (ad 60 0)), none] rfl (by decide) (by simp [Value.category]) (Nat.le_of_ble_eq_true rfl) rfl ?_
  intro p e s m args below meth c K hN hT
  refine j_aload_n K 3 dL_rangeOf_0 rfl rfl ?_
  refine j_iconst K 0 dL_rangeOf_1 rfl ?_
  refine j_aload_n K 0 dL_rangeOf_2 rfl rfl ?_
  refine j_iload_n K 1 dL_rangeOf_3 rfl rfl ?_
  refine j_iload_n K 2 dL_rangeOf_4 rfl rfl ?_
  refine j_callV K dL_rangeOf_5 m_X5_rangeOf v_X5_rangeOf k_L_24 rfl ⟨by decide, rfl⟩ hl0 h rfl rfl (by simp [Value.category]) ⟨(by show _ ≤ 6 + (lvl + 1); omega), (by show _ ≤ 100 + 30 * (lvl + 1); omega)⟩ (Nat.le_refl _) (Nat.le_refl _) (fun v9 M9 hq => ?_) (fun E9 M9 hq => ?_)
  · exact absurd hq.1 (fun w => nomatch w)
  · obtain ⟨h9, hM⟩ := hq
    cases h9
    refine j_catch K hN [] [⟨0, 10, 17, 13⟩] ⟨0, 10, 13, 28⟩ (hT.trans rfl) xn_IB (fun z hz => absurd hz List.not_mem_nil) (by decide) (by decide) xl_IB xc_IB (fun q => ?_)
    refine j_astore K dL_rangeOf_13 (by decide) ?_
    refine j_iconst K 1 dL_rangeOf_15 rfl ?_
    refine j_iret K dL_rangeOf_16 ?_
    exact ⟨rfl, hM⟩
set_option maxRecDepth 20000 in
set_option maxHeartbeats 400000 in
theorem wx_rangeOf_2 {l : Launch} {D : va_G} {ca : Nat → ClassId} {q0 : Nat} {sa : Nat → Nat} {ad : jAd} {lvl mc ms z z2 : Nat} {Lv Lv2 : jLv} {V V2 : jV} {Rf Rf2 : jR} (p0 p1 : Int32) (hl0 : Lv 0 0 = true) (h : jMet l D ca q0 sa ad yX5_rangeOf cX5_rangeOf 4 (some .int) lvl mc ms [.ref (ad 0 0), .int p0, .int p1] (z, Lv, V, Rf) (jExc "java/lang/IllegalArgumentException" (z2, Lv2, V2, Rf2))) : jMetH l D ca q0 sa ad yL_rangeOf cL_rangeOf 5 (some .int) hL_rangeOf (lvl + 1) mc ms [.ref (ad 0 0), .int p0, .int p1, .ref (ad 60 0)] (z, Lv, V, Rf) (fun o M9 => o = .inl (some (.int 2)) ∧ M9.2 = (Lv2, V2, Rf2)) := by
  refine j_enterH RL [some (.ref (ad 0 0)), some (.int p0), some (.int p1), some (.ref (ad 60 0)), none] rfl (by decide) (by simp [Value.category]) (Nat.le_of_ble_eq_true rfl) rfl ?_
  intro p e s m args below meth c K hN hT
  refine j_aload_n K 3 dL_rangeOf_0 rfl rfl ?_
  refine j_iconst K 0 dL_rangeOf_1 rfl ?_
  refine j_aload_n K 0 dL_rangeOf_2 rfl rfl ?_
  refine j_iload_n K 1 dL_rangeOf_3 rfl rfl ?_
  refine j_iload_n K 2 dL_rangeOf_4 rfl rfl ?_
  refine j_callV K dL_rangeOf_5 m_X5_rangeOf v_X5_rangeOf k_L_24 rfl ⟨by decide, rfl⟩ hl0 h rfl rfl (by simp [Value.category]) ⟨(by show _ ≤ 6 + (lvl + 1); omega), (by show _ ≤ 100 + 30 * (lvl + 1); omega)⟩ (Nat.le_refl _) (Nat.le_refl _) (fun v9 M9 hq => ?_) (fun E9 M9 hq => ?_)
  · exact absurd hq.1 (fun w => nomatch w)
  · obtain ⟨h9, hM⟩ := hq
    cases h9
    refine j_catch K hN [⟨0, 10, 13, 28⟩] [] ⟨0, 10, 17, 13⟩ (hT.trans rfl) xn_IA (fun z hz => by rw [List.mem_singleton.mp hz]; exact ⟨by decide, _, xn_IB, by decide +kernel, xl_IB⟩) (by decide) (by decide) xl_IA xc_IA (fun q => ?_)
    refine j_astore K dL_rangeOf_17 (by decide) ?_
    refine j_iconst K 2 dL_rangeOf_19 rfl ?_
    refine j_iret K dL_rangeOf_20 ?_
    exact ⟨rfl, hM⟩
set_option maxRecDepth 20000 in
set_option maxHeartbeats 400000 in
theorem wr_waterCount {l : Launch} {D : va_G} {ca : Nat → ClassId} {q0 : Nat} {sa : Nat → Nat} {ad : jAd} {lvl mc ms z z2 : Nat} {Lv Lv2 : jLv} {V V2 : jV} {Rf Rf2 : jR} (p0 p1 : Int32) (v : Int32) (hl0 : Lv 0 0 = true) (hl6 : Lv2 60 0 = true) (h : jMet l D ca q0 sa ad yX5_waterCount cX5_waterCount 4 (some .int) lvl mc ms [.ref (ad 0 0), .int p0, .int p1] (z, Lv, V, Rf) (jRet (some (.int v)) (z2, Lv2, V2, Rf2))) : jMetH l D ca q0 sa ad yL_waterCount cL_waterCount 5 (some .int) hL_waterCount (lvl + 1) mc ms [.ref (ad 0 0), .int p0, .int p1, .ref (ad 60 0)] (z, Lv, V, Rf) (fun o M9 => o = .inl (some (.int 0)) ∧ M9.2 = (Lv2, up V2 60 0 0 v, Rf2)) := by
  refine j_enterH RL [some (.ref (ad 0 0)), some (.int p0), some (.int p1), some (.ref (ad 60 0)), none] rfl (by decide) (by simp [Value.category]) (Nat.le_of_ble_eq_true rfl) rfl ?_
  intro p e s m args below meth c K hN hT
  refine j_aload_n K 3 dL_waterCount_0 rfl rfl ?_
  refine j_iconst K 0 dL_waterCount_1 rfl ?_
  refine j_aload_n K 0 dL_waterCount_2 rfl rfl ?_
  refine j_iload_n K 1 dL_waterCount_3 rfl rfl ?_
  refine j_iload_n K 2 dL_waterCount_4 rfl rfl ?_
  refine j_callV K dL_waterCount_5 m_X5_waterCount v_X5_waterCount k_L_30 rfl ⟨by decide, rfl⟩ hl0 h rfl rfl (by simp [Value.category]) ⟨(by show _ ≤ 6 + (lvl + 1); omega), (by show _ ≤ 100 + 30 * (lvl + 1); omega)⟩ (Nat.le_refl _) (Nat.le_refl _) (fun v9 M9 hq => ?_) (fun E9 M9 hq => ?_)
  · obtain ⟨h9, rfl⟩ := hq
    cases h9
    refine j_i2l K dL_waterCount_8 ?_
    refine jLast K 0 v dL_waterCount_9 rfl hl6 rfl (by decide) rfl ?_
    refine j_goto K 21 dL_waterCount_10 (by decide) ?_
    refine j_iconst K 0 dL_waterCount_21 rfl ?_
    refine j_iret K dL_waterCount_22 ?_
    exact ⟨rfl, rfl⟩
  · exact absurd hq.1 (fun w => nomatch w)
set_option maxRecDepth 20000 in
set_option maxHeartbeats 400000 in
theorem wx_waterCount_1 {l : Launch} {D : va_G} {ca : Nat → ClassId} {q0 : Nat} {sa : Nat → Nat} {ad : jAd} {lvl mc ms z z2 : Nat} {Lv Lv2 : jLv} {V V2 : jV} {Rf Rf2 : jR} (p0 p1 : Int32) (hl0 : Lv 0 0 = true) (h : jMet l D ca q0 sa ad yX5_waterCount cX5_waterCount 4 (some .int) lvl mc ms [.ref (ad 0 0), .int p0, .int p1] (z, Lv, V, Rf) (jExc "java/lang/IndexOutOfBoundsException" (z2, Lv2, V2, Rf2))) : jMetH l D ca q0 sa ad yL_waterCount cL_waterCount 5 (some .int) hL_waterCount (lvl + 1) mc ms [.ref (ad 0 0), .int p0, .int p1, .ref (ad 60 0)] (z, Lv, V, Rf) (fun o M9 => o = .inl (some (.int 1)) ∧ M9.2 = (Lv2, V2, Rf2)) := by
  refine j_enterH RL [some (.ref (ad 0 0)), some (.int p0), some (.int p1), some (.ref (ad 60 0)), none] rfl (by decide) (by simp [Value.category]) (Nat.le_of_ble_eq_true rfl) rfl ?_
  intro p e s m args below meth c K hN hT
  refine j_aload_n K 3 dL_waterCount_0 rfl rfl ?_
  refine j_iconst K 0 dL_waterCount_1 rfl ?_
  refine j_aload_n K 0 dL_waterCount_2 rfl rfl ?_
  refine j_iload_n K 1 dL_waterCount_3 rfl rfl ?_
  refine j_iload_n K 2 dL_waterCount_4 rfl rfl ?_
  refine j_callV K dL_waterCount_5 m_X5_waterCount v_X5_waterCount k_L_30 rfl ⟨by decide, rfl⟩ hl0 h rfl rfl (by simp [Value.category]) ⟨(by show _ ≤ 6 + (lvl + 1); omega), (by show _ ≤ 100 + 30 * (lvl + 1); omega)⟩ (Nat.le_refl _) (Nat.le_refl _) (fun v9 M9 hq => ?_) (fun E9 M9 hq => ?_)
  · exact absurd hq.1 (fun w => nomatch w)
  · obtain ⟨h9, hM⟩ := hq
    cases h9
    refine j_catch K hN [] [⟨0, 10, 17, 13⟩] ⟨0, 10, 13, 28⟩ (hT.trans rfl) xn_IB (fun z hz => absurd hz List.not_mem_nil) (by decide) (by decide) xl_IB xc_IB (fun q => ?_)
    refine j_astore K dL_waterCount_13 (by decide) ?_
    refine j_iconst K 1 dL_waterCount_15 rfl ?_
    refine j_iret K dL_waterCount_16 ?_
    exact ⟨rfl, hM⟩
set_option maxRecDepth 20000 in
set_option maxHeartbeats 400000 in
theorem wx_waterCount_2 {l : Launch} {D : va_G} {ca : Nat → ClassId} {q0 : Nat} {sa : Nat → Nat} {ad : jAd} {lvl mc ms z z2 : Nat} {Lv Lv2 : jLv} {V V2 : jV} {Rf Rf2 : jR} (p0 p1 : Int32) (hl0 : Lv 0 0 = true) (h : jMet l D ca q0 sa ad yX5_waterCount cX5_waterCount 4 (some .int) lvl mc ms [.ref (ad 0 0), .int p0, .int p1] (z, Lv, V, Rf) (jExc "java/lang/IllegalArgumentException" (z2, Lv2, V2, Rf2))) : jMetH l D ca q0 sa ad yL_waterCount cL_waterCount 5 (some .int) hL_waterCount (lvl + 1) mc ms [.ref (ad 0 0), .int p0, .int p1, .ref (ad 60 0)] (z, Lv, V, Rf) (fun o M9 => o = .inl (some (.int 2)) ∧ M9.2 = (Lv2, V2, Rf2)) := by
  refine j_enterH RL [some (.ref (ad 0 0)), some (.int p0), some (.int p1), some (.ref (ad 60 0)), none] rfl (by decide) (by simp [Value.category]) (Nat.le_of_ble_eq_true rfl) rfl ?_
  intro p e s m args below meth c K hN hT
  refine j_aload_n K 3 dL_waterCount_0 rfl rfl ?_
  refine j_iconst K 0 dL_waterCount_1 rfl ?_
  refine j_aload_n K 0 dL_waterCount_2 rfl rfl ?_
  refine j_iload_n K 1 dL_waterCount_3 rfl rfl ?_
  refine j_iload_n K 2 dL_waterCount_4 rfl rfl ?_
  refine j_callV K dL_waterCount_5 m_X5_waterCount v_X5_waterCount k_L_30 rfl ⟨by decide, rfl⟩ hl0 h rfl rfl (by simp [Value.category]) ⟨(by show _ ≤ 6 + (lvl + 1); omega), (by show _ ≤ 100 + 30 * (lvl + 1); omega)⟩ (Nat.le_refl _) (Nat.le_refl _) (fun v9 M9 hq => ?_) (fun E9 M9 hq => ?_)
  · exact absurd hq.1 (fun w => nomatch w)
  · obtain ⟨h9, hM⟩ := hq
    cases h9
    refine j_catch K hN [⟨0, 10, 13, 28⟩] [] ⟨0, 10, 17, 13⟩ (hT.trans rfl) xn_IA (fun z hz => by rw [List.mem_singleton.mp hz]; exact ⟨by decide, _, xn_IB, by decide +kernel, xl_IB⟩) (by decide) (by decide) xl_IA xc_IA (fun q => ?_)
    refine j_astore K dL_waterCount_17 (by decide) ?_
    refine j_iconst K 2 dL_waterCount_19 rfl ?_
    refine j_iret K dL_waterCount_20 ?_
    exact ⟨rfl, hM⟩
set_option maxRecDepth 20000 in
set_option maxHeartbeats 400000 in
theorem wr_waterMinute {l : Launch} {D : va_G} {ca : Nat → ClassId} {q0 : Nat} {sa : Nat → Nat} {ad : jAd} {lvl mc ms z z2 : Nat} {Lv Lv2 : jLv} {V V2 : jV} {Rf Rf2 : jR} (p0 p1 p2 : Int32) (v : Int32) (hl0 : Lv 0 0 = true) (hl6 : Lv2 60 0 = true) (h : jMet l D ca q0 sa ad yX5_waterMinute cX5_waterMinute 4 (some .int) lvl mc ms [.ref (ad 0 0), .int p0, .int p1, .int p2] (z, Lv, V, Rf) (jRet (some (.int v)) (z2, Lv2, V2, Rf2))) : jMetH l D ca q0 sa ad yL_waterMinute cL_waterMinute 6 (some .int) hL_waterMinute (lvl + 1) mc ms [.ref (ad 0 0), .int p0, .int p1, .int p2, .ref (ad 60 0)] (z, Lv, V, Rf) (fun o M9 => o = .inl (some (.int 0)) ∧ M9.2 = (Lv2, up V2 60 0 0 v, Rf2)) := by
  refine j_enterH RL [some (.ref (ad 0 0)), some (.int p0), some (.int p1), some (.int p2), some (.ref (ad 60 0)), none] rfl (by decide) (by simp [Value.category]) (Nat.le_of_ble_eq_true rfl) rfl ?_
  intro p e s m args below meth c K hN hT
  refine j_aload K dL_waterMinute_0 rfl ?_
  refine j_iconst K 0 dL_waterMinute_2 rfl ?_
  refine j_aload_n K 0 dL_waterMinute_3 rfl rfl ?_
  refine j_iload_n K 1 dL_waterMinute_4 rfl rfl ?_
  refine j_iload_n K 2 dL_waterMinute_5 rfl rfl ?_
  refine j_iload_n K 3 dL_waterMinute_6 rfl rfl ?_
  refine j_callV K dL_waterMinute_7 m_X5_waterMinute v_X5_waterMinute k_L_33 rfl ⟨by decide, rfl⟩ hl0 h rfl rfl (by simp [Value.category]) ⟨(by show _ ≤ 6 + (lvl + 1); omega), (by show _ ≤ 100 + 30 * (lvl + 1); omega)⟩ (Nat.le_refl _) (Nat.le_refl _) (fun v9 M9 hq => ?_) (fun E9 M9 hq => ?_)
  · obtain ⟨h9, rfl⟩ := hq
    cases h9
    refine j_i2l K dL_waterMinute_10 ?_
    refine jLast K 0 v dL_waterMinute_11 rfl hl6 rfl (by decide) rfl ?_
    refine j_goto K 23 dL_waterMinute_12 (by decide) ?_
    refine j_iconst K 0 dL_waterMinute_23 rfl ?_
    refine j_iret K dL_waterMinute_24 ?_
    exact ⟨rfl, rfl⟩
  · exact absurd hq.1 (fun w => nomatch w)
set_option maxRecDepth 20000 in
set_option maxHeartbeats 400000 in
theorem wx_waterMinute_1 {l : Launch} {D : va_G} {ca : Nat → ClassId} {q0 : Nat} {sa : Nat → Nat} {ad : jAd} {lvl mc ms z z2 : Nat} {Lv Lv2 : jLv} {V V2 : jV} {Rf Rf2 : jR} (p0 p1 p2 : Int32) (hl0 : Lv 0 0 = true) (h : jMet l D ca q0 sa ad yX5_waterMinute cX5_waterMinute 4 (some .int) lvl mc ms [.ref (ad 0 0), .int p0, .int p1, .int p2] (z, Lv, V, Rf) (jExc "java/lang/IllegalArgumentException" (z2, Lv2, V2, Rf2))) : jMetH l D ca q0 sa ad yL_waterMinute cL_waterMinute 6 (some .int) hL_waterMinute (lvl + 1) mc ms [.ref (ad 0 0), .int p0, .int p1, .int p2, .ref (ad 60 0)] (z, Lv, V, Rf) (fun o M9 => o = .inl (some (.int 1)) ∧ M9.2 = (Lv2, V2, Rf2)) := by
  refine j_enterH RL [some (.ref (ad 0 0)), some (.int p0), some (.int p1), some (.int p2), some (.ref (ad 60 0)), none] rfl (by decide) (by simp [Value.category]) (Nat.le_of_ble_eq_true rfl) rfl ?_
  intro p e s m args below meth c K hN hT
  refine j_aload K dL_waterMinute_0 rfl ?_
  refine j_iconst K 0 dL_waterMinute_2 rfl ?_
  refine j_aload_n K 0 dL_waterMinute_3 rfl rfl ?_
  refine j_iload_n K 1 dL_waterMinute_4 rfl rfl ?_
  refine j_iload_n K 2 dL_waterMinute_5 rfl rfl ?_
  refine j_iload_n K 3 dL_waterMinute_6 rfl rfl ?_
  refine j_callV K dL_waterMinute_7 m_X5_waterMinute v_X5_waterMinute k_L_33 rfl ⟨by decide, rfl⟩ hl0 h rfl rfl (by simp [Value.category]) ⟨(by show _ ≤ 6 + (lvl + 1); omega), (by show _ ≤ 100 + 30 * (lvl + 1); omega)⟩ (Nat.le_refl _) (Nat.le_refl _) (fun v9 M9 hq => ?_) (fun E9 M9 hq => ?_)
  · exact absurd hq.1 (fun w => nomatch w)
  · obtain ⟨h9, hM⟩ := hq
    cases h9
    refine j_catch K hN [] [⟨0, 12, 19, 28⟩] ⟨0, 12, 15, 13⟩ (hT.trans rfl) xn_IA (fun z hz => absurd hz List.not_mem_nil) (by decide) (by decide) xl_IA xc_IA (fun q => ?_)
    refine j_astore K dL_waterMinute_15 (by decide) ?_
    refine j_iconst K 1 dL_waterMinute_17 rfl ?_
    refine j_iret K dL_waterMinute_18 ?_
    exact ⟨rfl, hM⟩
set_option maxRecDepth 20000 in
set_option maxHeartbeats 400000 in
theorem wx_waterMinute_2 {l : Launch} {D : va_G} {ca : Nat → ClassId} {q0 : Nat} {sa : Nat → Nat} {ad : jAd} {lvl mc ms z z2 : Nat} {Lv Lv2 : jLv} {V V2 : jV} {Rf Rf2 : jR} (p0 p1 p2 : Int32) (hl0 : Lv 0 0 = true) (h : jMet l D ca q0 sa ad yX5_waterMinute cX5_waterMinute 4 (some .int) lvl mc ms [.ref (ad 0 0), .int p0, .int p1, .int p2] (z, Lv, V, Rf) (jExc "java/lang/IndexOutOfBoundsException" (z2, Lv2, V2, Rf2))) : jMetH l D ca q0 sa ad yL_waterMinute cL_waterMinute 6 (some .int) hL_waterMinute (lvl + 1) mc ms [.ref (ad 0 0), .int p0, .int p1, .int p2, .ref (ad 60 0)] (z, Lv, V, Rf) (fun o M9 => o = .inl (some (.int 2)) ∧ M9.2 = (Lv2, V2, Rf2)) := by
  refine j_enterH RL [some (.ref (ad 0 0)), some (.int p0), some (.int p1), some (.int p2), some (.ref (ad 60 0)), none] rfl (by decide) (by simp [Value.category]) (Nat.le_of_ble_eq_true rfl) rfl ?_
  intro p e s m args below meth c K hN hT
  refine j_aload K dL_waterMinute_0 rfl ?_
  refine j_iconst K 0 dL_waterMinute_2 rfl ?_
  refine j_aload_n K 0 dL_waterMinute_3 rfl rfl ?_
  refine j_iload_n K 1 dL_waterMinute_4 rfl rfl ?_
  refine j_iload_n K 2 dL_waterMinute_5 rfl rfl ?_
  refine j_iload_n K 3 dL_waterMinute_6 rfl rfl ?_
  refine j_callV K dL_waterMinute_7 m_X5_waterMinute v_X5_waterMinute k_L_33 rfl ⟨by decide, rfl⟩ hl0 h rfl rfl (by simp [Value.category]) ⟨(by show _ ≤ 6 + (lvl + 1); omega), (by show _ ≤ 100 + 30 * (lvl + 1); omega)⟩ (Nat.le_refl _) (Nat.le_refl _) (fun v9 M9 hq => ?_) (fun E9 M9 hq => ?_)
  · exact absurd hq.1 (fun w => nomatch w)
  · obtain ⟨h9, hM⟩ := hq
    cases h9
    refine j_catch K hN [⟨0, 12, 15, 13⟩] [] ⟨0, 12, 19, 28⟩ (hT.trans rfl) xn_IB (fun z hz => by rw [List.mem_singleton.mp hz]; exact ⟨by decide, _, xn_IA, by decide +kernel, xl_IA⟩) (by decide) (by decide) xl_IB xc_IB (fun q => ?_)
    refine j_astore K dL_waterMinute_19 (by decide) ?_
    refine j_iconst K 2 dL_waterMinute_21 rfl ?_
    refine j_iret K dL_waterMinute_22 ?_
    exact ⟨rfl, hM⟩
set_option maxRecDepth 20000 in
set_option maxHeartbeats 400000 in
theorem wr_waterHeight {l : Launch} {D : va_G} {ca : Nat → ClassId} {q0 : Nat} {sa : Nat → Nat} {ad : jAd} {lvl mc ms z z2 : Nat} {Lv Lv2 : jLv} {V V2 : jV} {Rf Rf2 : jR} (p0 p1 p2 : Int32) (v : Int32) (hl0 : Lv 0 0 = true) (hl6 : Lv2 60 0 = true) (h : jMet l D ca q0 sa ad yX5_waterHeight cX5_waterHeight 4 (some .int) lvl mc ms [.ref (ad 0 0), .int p0, .int p1, .int p2] (z, Lv, V, Rf) (jRet (some (.int v)) (z2, Lv2, V2, Rf2))) : jMetH l D ca q0 sa ad yL_waterHeight cL_waterHeight 6 (some .int) hL_waterHeight (lvl + 1) mc ms [.ref (ad 0 0), .int p0, .int p1, .int p2, .ref (ad 60 0)] (z, Lv, V, Rf) (fun o M9 => o = .inl (some (.int 0)) ∧ M9.2 = (Lv2, up V2 60 0 0 v, Rf2)) := by
  refine j_enterH RL [some (.ref (ad 0 0)), some (.int p0), some (.int p1), some (.int p2), some (.ref (ad 60 0)), none] rfl (by decide) (by simp [Value.category]) (Nat.le_of_ble_eq_true rfl) rfl ?_
  intro p e s m args below meth c K hN hT
  refine j_aload K dL_waterHeight_0 rfl ?_
  refine j_iconst K 0 dL_waterHeight_2 rfl ?_
  refine j_aload_n K 0 dL_waterHeight_3 rfl rfl ?_
  refine j_iload_n K 1 dL_waterHeight_4 rfl rfl ?_
  refine j_iload_n K 2 dL_waterHeight_5 rfl rfl ?_
  refine j_iload_n K 3 dL_waterHeight_6 rfl rfl ?_
  refine j_callV K dL_waterHeight_7 m_X5_waterHeight v_X5_waterHeight k_L_37 rfl ⟨by decide, rfl⟩ hl0 h rfl rfl (by simp [Value.category]) ⟨(by show _ ≤ 6 + (lvl + 1); omega), (by show _ ≤ 100 + 30 * (lvl + 1); omega)⟩ (Nat.le_refl _) (Nat.le_refl _) (fun v9 M9 hq => ?_) (fun E9 M9 hq => ?_)
  · obtain ⟨h9, rfl⟩ := hq
    cases h9
    refine j_i2l K dL_waterHeight_10 ?_
    refine jLast K 0 v dL_waterHeight_11 rfl hl6 rfl (by decide) rfl ?_
    refine j_goto K 23 dL_waterHeight_12 (by decide) ?_
    refine j_iconst K 0 dL_waterHeight_23 rfl ?_
    refine j_iret K dL_waterHeight_24 ?_
    exact ⟨rfl, rfl⟩
  · exact absurd hq.1 (fun w => nomatch w)
set_option maxRecDepth 20000 in
set_option maxHeartbeats 400000 in
theorem wx_waterHeight_1 {l : Launch} {D : va_G} {ca : Nat → ClassId} {q0 : Nat} {sa : Nat → Nat} {ad : jAd} {lvl mc ms z z2 : Nat} {Lv Lv2 : jLv} {V V2 : jV} {Rf Rf2 : jR} (p0 p1 p2 : Int32) (hl0 : Lv 0 0 = true) (h : jMet l D ca q0 sa ad yX5_waterHeight cX5_waterHeight 4 (some .int) lvl mc ms [.ref (ad 0 0), .int p0, .int p1, .int p2] (z, Lv, V, Rf) (jExc "java/lang/IllegalArgumentException" (z2, Lv2, V2, Rf2))) : jMetH l D ca q0 sa ad yL_waterHeight cL_waterHeight 6 (some .int) hL_waterHeight (lvl + 1) mc ms [.ref (ad 0 0), .int p0, .int p1, .int p2, .ref (ad 60 0)] (z, Lv, V, Rf) (fun o M9 => o = .inl (some (.int 1)) ∧ M9.2 = (Lv2, V2, Rf2)) := by
  refine j_enterH RL [some (.ref (ad 0 0)), some (.int p0), some (.int p1), some (.int p2), some (.ref (ad 60 0)), none] rfl (by decide) (by simp [Value.category]) (Nat.le_of_ble_eq_true rfl) rfl ?_
  intro p e s m args below meth c K hN hT
  refine j_aload K dL_waterHeight_0 rfl ?_
  refine j_iconst K 0 dL_waterHeight_2 rfl ?_
  refine j_aload_n K 0 dL_waterHeight_3 rfl rfl ?_
  refine j_iload_n K 1 dL_waterHeight_4 rfl rfl ?_
  refine j_iload_n K 2 dL_waterHeight_5 rfl rfl ?_
  refine j_iload_n K 3 dL_waterHeight_6 rfl rfl ?_
  refine j_callV K dL_waterHeight_7 m_X5_waterHeight v_X5_waterHeight k_L_37 rfl ⟨by decide, rfl⟩ hl0 h rfl rfl (by simp [Value.category]) ⟨(by show _ ≤ 6 + (lvl + 1); omega), (by show _ ≤ 100 + 30 * (lvl + 1); omega)⟩ (Nat.le_refl _) (Nat.le_refl _) (fun v9 M9 hq => ?_) (fun E9 M9 hq => ?_)
  · exact absurd hq.1 (fun w => nomatch w)
  · obtain ⟨h9, hM⟩ := hq
    cases h9
    refine j_catch K hN [] [⟨0, 12, 19, 28⟩] ⟨0, 12, 15, 13⟩ (hT.trans rfl) xn_IA (fun z hz => absurd hz List.not_mem_nil) (by decide) (by decide) xl_IA xc_IA (fun q => ?_)
    refine j_astore K dL_waterHeight_15 (by decide) ?_
    refine j_iconst K 1 dL_waterHeight_17 rfl ?_
    refine j_iret K dL_waterHeight_18 ?_
    exact ⟨rfl, hM⟩
set_option maxRecDepth 20000 in
set_option maxHeartbeats 400000 in
theorem wx_waterHeight_2 {l : Launch} {D : va_G} {ca : Nat → ClassId} {q0 : Nat} {sa : Nat → Nat} {ad : jAd} {lvl mc ms z z2 : Nat} {Lv Lv2 : jLv} {V V2 : jV} {Rf Rf2 : jR} (p0 p1 p2 : Int32) (hl0 : Lv 0 0 = true) (h : jMet l D ca q0 sa ad yX5_waterHeight cX5_waterHeight 4 (some .int) lvl mc ms [.ref (ad 0 0), .int p0, .int p1, .int p2] (z, Lv, V, Rf) (jExc "java/lang/IndexOutOfBoundsException" (z2, Lv2, V2, Rf2))) : jMetH l D ca q0 sa ad yL_waterHeight cL_waterHeight 6 (some .int) hL_waterHeight (lvl + 1) mc ms [.ref (ad 0 0), .int p0, .int p1, .int p2, .ref (ad 60 0)] (z, Lv, V, Rf) (fun o M9 => o = .inl (some (.int 2)) ∧ M9.2 = (Lv2, V2, Rf2)) := by
  refine j_enterH RL [some (.ref (ad 0 0)), some (.int p0), some (.int p1), some (.int p2), some (.ref (ad 60 0)), none] rfl (by decide) (by simp [Value.category]) (Nat.le_of_ble_eq_true rfl) rfl ?_
  intro p e s m args below meth c K hN hT
  refine j_aload K dL_waterHeight_0 rfl ?_
  refine j_iconst K 0 dL_waterHeight_2 rfl ?_
  refine j_aload_n K 0 dL_waterHeight_3 rfl rfl ?_
  refine j_iload_n K 1 dL_waterHeight_4 rfl rfl ?_
  refine j_iload_n K 2 dL_waterHeight_5 rfl rfl ?_
  refine j_iload_n K 3 dL_waterHeight_6 rfl rfl ?_
  refine j_callV K dL_waterHeight_7 m_X5_waterHeight v_X5_waterHeight k_L_37 rfl ⟨by decide, rfl⟩ hl0 h rfl rfl (by simp [Value.category]) ⟨(by show _ ≤ 6 + (lvl + 1); omega), (by show _ ≤ 100 + 30 * (lvl + 1); omega)⟩ (Nat.le_refl _) (Nat.le_refl _) (fun v9 M9 hq => ?_) (fun E9 M9 hq => ?_)
  · exact absurd hq.1 (fun w => nomatch w)
  · obtain ⟨h9, hM⟩ := hq
    cases h9
    refine j_catch K hN [⟨0, 12, 15, 13⟩] [] ⟨0, 12, 19, 28⟩ (hT.trans rfl) xn_IB (fun z hz => by rw [List.mem_singleton.mp hz]; exact ⟨by decide, _, xn_IA, by decide +kernel, xl_IA⟩) (by decide) (by decide) xl_IB xc_IB (fun q => ?_)
    refine j_astore K dL_waterHeight_19 (by decide) ?_
    refine j_iconst K 2 dL_waterHeight_21 rfl ?_
    refine j_iret K dL_waterHeight_22 ?_
    exact ⟨rfl, hM⟩
set_option maxRecDepth 20000 in
set_option maxHeartbeats 400000 in
theorem wr_isHighWater {l : Launch} {D : va_G} {ca : Nat → ClassId} {q0 : Nat} {sa : Nat → Nat} {ad : jAd} {lvl mc ms z z2 : Nat} {Lv Lv2 : jLv} {V V2 : jV} {Rf Rf2 : jR} (p0 p1 p2 : Int32) (v : Int32) (hb : v = 0 ∨ v = 1) (hl0 : Lv 0 0 = true) (hl6 : Lv2 60 0 = true) (h : jMet l D ca q0 sa ad yX5_isHighWater cX5_isHighWater 4 (some .boolean) lvl mc ms [.ref (ad 0 0), .int p0, .int p1, .int p2] (z, Lv, V, Rf) (jRet (some (.int v)) (z2, Lv2, V2, Rf2))) : jMetH l D ca q0 sa ad yL_isHighWater cL_isHighWater 6 (some .int) hL_isHighWater (lvl + 1) mc ms [.ref (ad 0 0), .int p0, .int p1, .int p2, .ref (ad 60 0)] (z, Lv, V, Rf) (fun o M9 => o = .inl (some (.int 0)) ∧ M9.2 = (Lv2, up V2 60 0 0 v, Rf2)) := by
  refine j_enterH RL [some (.ref (ad 0 0)), some (.int p0), some (.int p1), some (.int p2), some (.ref (ad 60 0)), none] rfl (by decide) (by simp [Value.category]) (Nat.le_of_ble_eq_true rfl) rfl ?_
  intro p e s m args below meth c K hN hT
  refine j_aload K dL_isHighWater_0 rfl ?_
  refine j_iconst K 0 dL_isHighWater_2 rfl ?_
  refine j_aload_n K 0 dL_isHighWater_3 rfl rfl ?_
  refine j_iload_n K 1 dL_isHighWater_4 rfl rfl ?_
  refine j_iload_n K 2 dL_isHighWater_5 rfl rfl ?_
  refine j_iload_n K 3 dL_isHighWater_6 rfl rfl ?_
  refine j_callV K dL_isHighWater_7 m_X5_isHighWater v_X5_isHighWater k_L_40 rfl ⟨by decide, rfl⟩ hl0 h rfl rfl (by simp [Value.category]) ⟨(by show _ ≤ 6 + (lvl + 1); omega), (by show _ ≤ 100 + 30 * (lvl + 1); omega)⟩ (Nat.le_refl _) (Nat.le_refl _) (fun v9 M9 hq => ?_) (fun E9 M9 hq => ?_)
  · obtain ⟨h9, rfl⟩ := hq
    cases h9
    refine j_if_eq K 17 dL_isHighWater_10 (by decide) (fun hz => ?_) (fun hz => ?_)
    · refine j_lconst K 0 dL_isHighWater_17 rfl ?_
      refine jLast K 0 v dL_isHighWater_18 rfl hl6 rfl (by decide) (by rw [hz]; rfl) ?_
      refine j_goto K 30 dL_isHighWater_19 (by decide) ?_
      refine j_iconst K 0 dL_isHighWater_30 rfl ?_
      refine j_iret K dL_isHighWater_31 ?_
      exact ⟨rfl, rfl⟩
    · refine j_lconst K 1 dL_isHighWater_13 rfl ?_
      refine j_goto K 18 dL_isHighWater_14 (by decide) ?_
      refine jLast K 0 v dL_isHighWater_18 rfl hl6 rfl (by decide) (by rw [hb.resolve_left hz]; rfl) ?_
      refine j_goto K 30 dL_isHighWater_19 (by decide) ?_
      refine j_iconst K 0 dL_isHighWater_30 rfl ?_
      refine j_iret K dL_isHighWater_31 ?_
      exact ⟨rfl, rfl⟩
  · exact absurd hq.1 (fun w => nomatch w)
set_option maxRecDepth 20000 in
set_option maxHeartbeats 400000 in
theorem wx_isHighWater_1 {l : Launch} {D : va_G} {ca : Nat → ClassId} {q0 : Nat} {sa : Nat → Nat} {ad : jAd} {lvl mc ms z z2 : Nat} {Lv Lv2 : jLv} {V V2 : jV} {Rf Rf2 : jR} (p0 p1 p2 : Int32) (hl0 : Lv 0 0 = true) (h : jMet l D ca q0 sa ad yX5_isHighWater cX5_isHighWater 4 (some .boolean) lvl mc ms [.ref (ad 0 0), .int p0, .int p1, .int p2] (z, Lv, V, Rf) (jExc "java/lang/IllegalArgumentException" (z2, Lv2, V2, Rf2))) : jMetH l D ca q0 sa ad yL_isHighWater cL_isHighWater 6 (some .int) hL_isHighWater (lvl + 1) mc ms [.ref (ad 0 0), .int p0, .int p1, .int p2, .ref (ad 60 0)] (z, Lv, V, Rf) (fun o M9 => o = .inl (some (.int 1)) ∧ M9.2 = (Lv2, V2, Rf2)) := by
  refine j_enterH RL [some (.ref (ad 0 0)), some (.int p0), some (.int p1), some (.int p2), some (.ref (ad 60 0)), none] rfl (by decide) (by simp [Value.category]) (Nat.le_of_ble_eq_true rfl) rfl ?_
  intro p e s m args below meth c K hN hT
  refine j_aload K dL_isHighWater_0 rfl ?_
  refine j_iconst K 0 dL_isHighWater_2 rfl ?_
  refine j_aload_n K 0 dL_isHighWater_3 rfl rfl ?_
  refine j_iload_n K 1 dL_isHighWater_4 rfl rfl ?_
  refine j_iload_n K 2 dL_isHighWater_5 rfl rfl ?_
  refine j_iload_n K 3 dL_isHighWater_6 rfl rfl ?_
  refine j_callV K dL_isHighWater_7 m_X5_isHighWater v_X5_isHighWater k_L_40 rfl ⟨by decide, rfl⟩ hl0 h rfl rfl (by simp [Value.category]) ⟨(by show _ ≤ 6 + (lvl + 1); omega), (by show _ ≤ 100 + 30 * (lvl + 1); omega)⟩ (Nat.le_refl _) (Nat.le_refl _) (fun v9 M9 hq => ?_) (fun E9 M9 hq => ?_)
  · exact absurd hq.1 (fun w => nomatch w)
  · obtain ⟨h9, hM⟩ := hq
    cases h9
    refine j_catch K hN [] [⟨0, 19, 26, 28⟩] ⟨0, 19, 22, 13⟩ (hT.trans rfl) xn_IA (fun z hz => absurd hz List.not_mem_nil) (by decide) (by decide) xl_IA xc_IA (fun q => ?_)
    refine j_astore K dL_isHighWater_22 (by decide) ?_
    refine j_iconst K 1 dL_isHighWater_24 rfl ?_
    refine j_iret K dL_isHighWater_25 ?_
    exact ⟨rfl, hM⟩
set_option maxRecDepth 20000 in
set_option maxHeartbeats 400000 in
theorem wx_isHighWater_2 {l : Launch} {D : va_G} {ca : Nat → ClassId} {q0 : Nat} {sa : Nat → Nat} {ad : jAd} {lvl mc ms z z2 : Nat} {Lv Lv2 : jLv} {V V2 : jV} {Rf Rf2 : jR} (p0 p1 p2 : Int32) (hl0 : Lv 0 0 = true) (h : jMet l D ca q0 sa ad yX5_isHighWater cX5_isHighWater 4 (some .boolean) lvl mc ms [.ref (ad 0 0), .int p0, .int p1, .int p2] (z, Lv, V, Rf) (jExc "java/lang/IndexOutOfBoundsException" (z2, Lv2, V2, Rf2))) : jMetH l D ca q0 sa ad yL_isHighWater cL_isHighWater 6 (some .int) hL_isHighWater (lvl + 1) mc ms [.ref (ad 0 0), .int p0, .int p1, .int p2, .ref (ad 60 0)] (z, Lv, V, Rf) (fun o M9 => o = .inl (some (.int 2)) ∧ M9.2 = (Lv2, V2, Rf2)) := by
  refine j_enterH RL [some (.ref (ad 0 0)), some (.int p0), some (.int p1), some (.int p2), some (.ref (ad 60 0)), none] rfl (by decide) (by simp [Value.category]) (Nat.le_of_ble_eq_true rfl) rfl ?_
  intro p e s m args below meth c K hN hT
  refine j_aload K dL_isHighWater_0 rfl ?_
  refine j_iconst K 0 dL_isHighWater_2 rfl ?_
  refine j_aload_n K 0 dL_isHighWater_3 rfl rfl ?_
  refine j_iload_n K 1 dL_isHighWater_4 rfl rfl ?_
  refine j_iload_n K 2 dL_isHighWater_5 rfl rfl ?_
  refine j_iload_n K 3 dL_isHighWater_6 rfl rfl ?_
  refine j_callV K dL_isHighWater_7 m_X5_isHighWater v_X5_isHighWater k_L_40 rfl ⟨by decide, rfl⟩ hl0 h rfl rfl (by simp [Value.category]) ⟨(by show _ ≤ 6 + (lvl + 1); omega), (by show _ ≤ 100 + 30 * (lvl + 1); omega)⟩ (Nat.le_refl _) (Nat.le_refl _) (fun v9 M9 hq => ?_) (fun E9 M9 hq => ?_)
  · exact absurd hq.1 (fun w => nomatch w)
  · obtain ⟨h9, hM⟩ := hq
    cases h9
    refine j_catch K hN [⟨0, 19, 22, 13⟩] [] ⟨0, 19, 26, 28⟩ (hT.trans rfl) xn_IB (fun z hz => by rw [List.mem_singleton.mp hz]; exact ⟨by decide, _, xn_IA, by decide +kernel, xl_IA⟩) (by decide) (by decide) xl_IB xc_IB (fun q => ?_)
    refine j_astore K dL_isHighWater_26 (by decide) ?_
    refine j_iconst K 2 dL_isHighWater_28 rfl ?_
    refine j_iret K dL_isHighWater_29 ?_
    exact ⟨rfl, hM⟩
set_option maxRecDepth 20000 in
set_option maxHeartbeats 400000 in
theorem wr_minutesToHighWater {l : Launch} {D : va_G} {ca : Nat → ClassId} {q0 : Nat} {sa : Nat → Nat} {ad : jAd} {lvl mc ms z z2 : Nat} {Lv Lv2 : jLv} {V V2 : jV} {Rf Rf2 : jR} (p0 p1 p2 : Int32) (v : Int32) (hl0 : Lv 0 0 = true) (hl6 : Lv2 60 0 = true) (h : jMet l D ca q0 sa ad yX5_minutesToHighWater cX5_minutesToHighWater 5 (some .int) lvl mc ms [.ref (ad 0 0), .int p0, .int p1, .int p2] (z, Lv, V, Rf) (jRet (some (.int v)) (z2, Lv2, V2, Rf2))) : jMetH l D ca q0 sa ad yL_minutesToHighWater cL_minutesToHighWater 6 (some .int) hL_minutesToHighWater (lvl + 1) mc ms [.ref (ad 0 0), .int p0, .int p1, .int p2, .ref (ad 60 0)] (z, Lv, V, Rf) (fun o M9 => o = .inl (some (.int 0)) ∧ M9.2 = (Lv2, up V2 60 0 0 v, Rf2)) := by
  refine j_enterH RL [some (.ref (ad 0 0)), some (.int p0), some (.int p1), some (.int p2), some (.ref (ad 60 0)), none] rfl (by decide) (by simp [Value.category]) (Nat.le_of_ble_eq_true rfl) rfl ?_
  intro p e s m args below meth c K hN hT
  refine j_aload K dL_minutesToHighWater_0 rfl ?_
  refine j_iconst K 0 dL_minutesToHighWater_2 rfl ?_
  refine j_aload_n K 0 dL_minutesToHighWater_3 rfl rfl ?_
  refine j_iload_n K 1 dL_minutesToHighWater_4 rfl rfl ?_
  refine j_iload_n K 2 dL_minutesToHighWater_5 rfl rfl ?_
  refine j_iload_n K 3 dL_minutesToHighWater_6 rfl rfl ?_
  refine j_callV K dL_minutesToHighWater_7 m_X5_minutesToHighWater v_X5_minutesToHighWater k_L_44 rfl ⟨by decide, rfl⟩ hl0 h rfl rfl (by simp [Value.category]) ⟨(by show _ ≤ 6 + (lvl + 1); omega), (by show _ ≤ 100 + 30 * (lvl + 1); omega)⟩ (Nat.le_refl _) (Nat.le_refl _) (fun v9 M9 hq => ?_) (fun E9 M9 hq => ?_)
  · obtain ⟨h9, rfl⟩ := hq
    cases h9
    refine j_i2l K dL_minutesToHighWater_10 ?_
    refine jLast K 0 v dL_minutesToHighWater_11 rfl hl6 rfl (by decide) rfl ?_
    refine j_goto K 23 dL_minutesToHighWater_12 (by decide) ?_
    refine j_iconst K 0 dL_minutesToHighWater_23 rfl ?_
    refine j_iret K dL_minutesToHighWater_24 ?_
    exact ⟨rfl, rfl⟩
  · exact absurd hq.1 (fun w => nomatch w)
set_option maxRecDepth 20000 in
set_option maxHeartbeats 400000 in
theorem wx_minutesToHighWater_1 {l : Launch} {D : va_G} {ca : Nat → ClassId} {q0 : Nat} {sa : Nat → Nat} {ad : jAd} {lvl mc ms z z2 : Nat} {Lv Lv2 : jLv} {V V2 : jV} {Rf Rf2 : jR} (p0 p1 p2 : Int32) (hl0 : Lv 0 0 = true) (h : jMet l D ca q0 sa ad yX5_minutesToHighWater cX5_minutesToHighWater 5 (some .int) lvl mc ms [.ref (ad 0 0), .int p0, .int p1, .int p2] (z, Lv, V, Rf) (jExc "java/lang/IndexOutOfBoundsException" (z2, Lv2, V2, Rf2))) : jMetH l D ca q0 sa ad yL_minutesToHighWater cL_minutesToHighWater 6 (some .int) hL_minutesToHighWater (lvl + 1) mc ms [.ref (ad 0 0), .int p0, .int p1, .int p2, .ref (ad 60 0)] (z, Lv, V, Rf) (fun o M9 => o = .inl (some (.int 1)) ∧ M9.2 = (Lv2, V2, Rf2)) := by
  refine j_enterH RL [some (.ref (ad 0 0)), some (.int p0), some (.int p1), some (.int p2), some (.ref (ad 60 0)), none] rfl (by decide) (by simp [Value.category]) (Nat.le_of_ble_eq_true rfl) rfl ?_
  intro p e s m args below meth c K hN hT
  refine j_aload K dL_minutesToHighWater_0 rfl ?_
  refine j_iconst K 0 dL_minutesToHighWater_2 rfl ?_
  refine j_aload_n K 0 dL_minutesToHighWater_3 rfl rfl ?_
  refine j_iload_n K 1 dL_minutesToHighWater_4 rfl rfl ?_
  refine j_iload_n K 2 dL_minutesToHighWater_5 rfl rfl ?_
  refine j_iload_n K 3 dL_minutesToHighWater_6 rfl rfl ?_
  refine j_callV K dL_minutesToHighWater_7 m_X5_minutesToHighWater v_X5_minutesToHighWater k_L_44 rfl ⟨by decide, rfl⟩ hl0 h rfl rfl (by simp [Value.category]) ⟨(by show _ ≤ 6 + (lvl + 1); omega), (by show _ ≤ 100 + 30 * (lvl + 1); omega)⟩ (Nat.le_refl _) (Nat.le_refl _) (fun v9 M9 hq => ?_) (fun E9 M9 hq => ?_)
  · exact absurd hq.1 (fun w => nomatch w)
  · obtain ⟨h9, hM⟩ := hq
    cases h9
    refine j_catch K hN [] [⟨0, 12, 19, 13⟩] ⟨0, 12, 15, 28⟩ (hT.trans rfl) xn_IB (fun z hz => absurd hz List.not_mem_nil) (by decide) (by decide) xl_IB xc_IB (fun q => ?_)
    refine j_astore K dL_minutesToHighWater_15 (by decide) ?_
    refine j_iconst K 1 dL_minutesToHighWater_17 rfl ?_
    refine j_iret K dL_minutesToHighWater_18 ?_
    exact ⟨rfl, hM⟩
set_option maxRecDepth 20000 in
set_option maxHeartbeats 400000 in
theorem wx_minutesToHighWater_2 {l : Launch} {D : va_G} {ca : Nat → ClassId} {q0 : Nat} {sa : Nat → Nat} {ad : jAd} {lvl mc ms z z2 : Nat} {Lv Lv2 : jLv} {V V2 : jV} {Rf Rf2 : jR} (p0 p1 p2 : Int32) (hl0 : Lv 0 0 = true) (h : jMet l D ca q0 sa ad yX5_minutesToHighWater cX5_minutesToHighWater 5 (some .int) lvl mc ms [.ref (ad 0 0), .int p0, .int p1, .int p2] (z, Lv, V, Rf) (jExc "java/lang/IllegalArgumentException" (z2, Lv2, V2, Rf2))) : jMetH l D ca q0 sa ad yL_minutesToHighWater cL_minutesToHighWater 6 (some .int) hL_minutesToHighWater (lvl + 1) mc ms [.ref (ad 0 0), .int p0, .int p1, .int p2, .ref (ad 60 0)] (z, Lv, V, Rf) (fun o M9 => o = .inl (some (.int 2)) ∧ M9.2 = (Lv2, V2, Rf2)) := by
  refine j_enterH RL [some (.ref (ad 0 0)), some (.int p0), some (.int p1), some (.int p2), some (.ref (ad 60 0)), none] rfl (by decide) (by simp [Value.category]) (Nat.le_of_ble_eq_true rfl) rfl ?_
  intro p e s m args below meth c K hN hT
  refine j_aload K dL_minutesToHighWater_0 rfl ?_
  refine j_iconst K 0 dL_minutesToHighWater_2 rfl ?_
  refine j_aload_n K 0 dL_minutesToHighWater_3 rfl rfl ?_
  refine j_iload_n K 1 dL_minutesToHighWater_4 rfl rfl ?_
  refine j_iload_n K 2 dL_minutesToHighWater_5 rfl rfl ?_
  refine j_iload_n K 3 dL_minutesToHighWater_6 rfl rfl ?_
  refine j_callV K dL_minutesToHighWater_7 m_X5_minutesToHighWater v_X5_minutesToHighWater k_L_44 rfl ⟨by decide, rfl⟩ hl0 h rfl rfl (by simp [Value.category]) ⟨(by show _ ≤ 6 + (lvl + 1); omega), (by show _ ≤ 100 + 30 * (lvl + 1); omega)⟩ (Nat.le_refl _) (Nat.le_refl _) (fun v9 M9 hq => ?_) (fun E9 M9 hq => ?_)
  · exact absurd hq.1 (fun w => nomatch w)
  · obtain ⟨h9, hM⟩ := hq
    cases h9
    refine j_catch K hN [⟨0, 12, 15, 28⟩] [] ⟨0, 12, 19, 13⟩ (hT.trans rfl) xn_IA (fun z hz => by rw [List.mem_singleton.mp hz]; exact ⟨by decide, _, xn_IB, by decide +kernel, xl_IB⟩) (by decide) (by decide) xl_IA xc_IA (fun q => ?_)
    refine j_astore K dL_minutesToHighWater_19 (by decide) ?_
    refine j_iconst K 2 dL_minutesToHighWater_21 rfl ?_
    refine j_iret K dL_minutesToHighWater_22 ?_
    exact ⟨rfl, hM⟩
set_option maxRecDepth 20000 in
set_option maxHeartbeats 400000 in
theorem wr_report {l : Launch} {D : va_G} {ca : Nat → ClassId} {q0 : Nat} {sa : Nat → Nat} {ad : jAd} {lvl mc ms z z2 : Nat} {Lv Lv2 : jLv} {V V2 : jV} {Rf Rf2 : jR} (p0 p1 p2 : Int32) (v : Int32) (hl0 : Lv 0 0 = true) (hl6 : Lv2 60 0 = true) (h : jMet l D ca q0 sa ad yX5_report cX5_report 5 (some .int) lvl mc ms [.ref (ad 0 0), .int p0, .int p1, .int p2] (z, Lv, V, Rf) (jRet (some (.int v)) (z2, Lv2, V2, Rf2))) : jMetH l D ca q0 sa ad yL_report cL_report 6 (some .int) hL_report (lvl + 1) mc ms [.ref (ad 0 0), .int p0, .int p1, .int p2, .ref (ad 60 0)] (z, Lv, V, Rf) (fun o M9 => o = .inl (some (.int 0)) ∧ M9.2 = (Lv2, up V2 60 0 0 v, Rf2)) := by
  refine j_enterH RL [some (.ref (ad 0 0)), some (.int p0), some (.int p1), some (.int p2), some (.ref (ad 60 0)), none] rfl (by decide) (by simp [Value.category]) (Nat.le_of_ble_eq_true rfl) rfl ?_
  intro p e s m args below meth c K hN hT
  refine j_aload K dL_report_0 rfl ?_
  refine j_iconst K 0 dL_report_2 rfl ?_
  refine j_aload_n K 0 dL_report_3 rfl rfl ?_
  refine j_iload_n K 1 dL_report_4 rfl rfl ?_
  refine j_iload_n K 2 dL_report_5 rfl rfl ?_
  refine j_iload_n K 3 dL_report_6 rfl rfl ?_
  refine j_callV K dL_report_7 m_X5_report v_X5_report k_L_47 rfl ⟨by decide, rfl⟩ hl0 h rfl rfl (by simp [Value.category]) ⟨(by show _ ≤ 6 + (lvl + 1); omega), (by show _ ≤ 100 + 30 * (lvl + 1); omega)⟩ (Nat.le_refl _) (Nat.le_refl _) (fun v9 M9 hq => ?_) (fun E9 M9 hq => ?_)
  · obtain ⟨h9, rfl⟩ := hq
    cases h9
    refine j_i2l K dL_report_10 ?_
    refine jLast K 0 v dL_report_11 rfl hl6 rfl (by decide) rfl ?_
    refine j_goto K 23 dL_report_12 (by decide) ?_
    refine j_iconst K 0 dL_report_23 rfl ?_
    refine j_iret K dL_report_24 ?_
    exact ⟨rfl, rfl⟩
  · exact absurd hq.1 (fun w => nomatch w)
set_option maxRecDepth 20000 in
set_option maxHeartbeats 400000 in
theorem wx_report_1 {l : Launch} {D : va_G} {ca : Nat → ClassId} {q0 : Nat} {sa : Nat → Nat} {ad : jAd} {lvl mc ms z z2 : Nat} {Lv Lv2 : jLv} {V V2 : jV} {Rf Rf2 : jR} (p0 p1 p2 : Int32) (hl0 : Lv 0 0 = true) (h : jMet l D ca q0 sa ad yX5_report cX5_report 5 (some .int) lvl mc ms [.ref (ad 0 0), .int p0, .int p1, .int p2] (z, Lv, V, Rf) (jExc "java/lang/IndexOutOfBoundsException" (z2, Lv2, V2, Rf2))) : jMetH l D ca q0 sa ad yL_report cL_report 6 (some .int) hL_report (lvl + 1) mc ms [.ref (ad 0 0), .int p0, .int p1, .int p2, .ref (ad 60 0)] (z, Lv, V, Rf) (fun o M9 => o = .inl (some (.int 1)) ∧ M9.2 = (Lv2, V2, Rf2)) := by
  refine j_enterH RL [some (.ref (ad 0 0)), some (.int p0), some (.int p1), some (.int p2), some (.ref (ad 60 0)), none] rfl (by decide) (by simp [Value.category]) (Nat.le_of_ble_eq_true rfl) rfl ?_
  intro p e s m args below meth c K hN hT
  refine j_aload K dL_report_0 rfl ?_
  refine j_iconst K 0 dL_report_2 rfl ?_
  refine j_aload_n K 0 dL_report_3 rfl rfl ?_
  refine j_iload_n K 1 dL_report_4 rfl rfl ?_
  refine j_iload_n K 2 dL_report_5 rfl rfl ?_
  refine j_iload_n K 3 dL_report_6 rfl rfl ?_
  refine j_callV K dL_report_7 m_X5_report v_X5_report k_L_47 rfl ⟨by decide, rfl⟩ hl0 h rfl rfl (by simp [Value.category]) ⟨(by show _ ≤ 6 + (lvl + 1); omega), (by show _ ≤ 100 + 30 * (lvl + 1); omega)⟩ (Nat.le_refl _) (Nat.le_refl _) (fun v9 M9 hq => ?_) (fun E9 M9 hq => ?_)
  · exact absurd hq.1 (fun w => nomatch w)
  · obtain ⟨h9, hM⟩ := hq
    cases h9
    refine j_catch K hN [] [⟨0, 12, 19, 13⟩] ⟨0, 12, 15, 28⟩ (hT.trans rfl) xn_IB (fun z hz => absurd hz List.not_mem_nil) (by decide) (by decide) xl_IB xc_IB (fun q => ?_)
    refine j_astore K dL_report_15 (by decide) ?_
    refine j_iconst K 1 dL_report_17 rfl ?_
    refine j_iret K dL_report_18 ?_
    exact ⟨rfl, hM⟩
set_option maxRecDepth 20000 in
set_option maxHeartbeats 400000 in
theorem wx_report_2 {l : Launch} {D : va_G} {ca : Nat → ClassId} {q0 : Nat} {sa : Nat → Nat} {ad : jAd} {lvl mc ms z z2 : Nat} {Lv Lv2 : jLv} {V V2 : jV} {Rf Rf2 : jR} (p0 p1 p2 : Int32) (hl0 : Lv 0 0 = true) (h : jMet l D ca q0 sa ad yX5_report cX5_report 5 (some .int) lvl mc ms [.ref (ad 0 0), .int p0, .int p1, .int p2] (z, Lv, V, Rf) (jExc "java/lang/IllegalArgumentException" (z2, Lv2, V2, Rf2))) : jMetH l D ca q0 sa ad yL_report cL_report 6 (some .int) hL_report (lvl + 1) mc ms [.ref (ad 0 0), .int p0, .int p1, .int p2, .ref (ad 60 0)] (z, Lv, V, Rf) (fun o M9 => o = .inl (some (.int 2)) ∧ M9.2 = (Lv2, V2, Rf2)) := by
  refine j_enterH RL [some (.ref (ad 0 0)), some (.int p0), some (.int p1), some (.int p2), some (.ref (ad 60 0)), none] rfl (by decide) (by simp [Value.category]) (Nat.le_of_ble_eq_true rfl) rfl ?_
  intro p e s m args below meth c K hN hT
  refine j_aload K dL_report_0 rfl ?_
  refine j_iconst K 0 dL_report_2 rfl ?_
  refine j_aload_n K 0 dL_report_3 rfl rfl ?_
  refine j_iload_n K 1 dL_report_4 rfl rfl ?_
  refine j_iload_n K 2 dL_report_5 rfl rfl ?_
  refine j_iload_n K 3 dL_report_6 rfl rfl ?_
  refine j_callV K dL_report_7 m_X5_report v_X5_report k_L_47 rfl ⟨by decide, rfl⟩ hl0 h rfl rfl (by simp [Value.category]) ⟨(by show _ ≤ 6 + (lvl + 1); omega), (by show _ ≤ 100 + 30 * (lvl + 1); omega)⟩ (Nat.le_refl _) (Nat.le_refl _) (fun v9 M9 hq => ?_) (fun E9 M9 hq => ?_)
  · exact absurd hq.1 (fun w => nomatch w)
  · obtain ⟨h9, hM⟩ := hq
    cases h9
    refine j_catch K hN [⟨0, 12, 15, 28⟩] [] ⟨0, 12, 19, 13⟩ (hT.trans rfl) xn_IA (fun z hz => by rw [List.mem_singleton.mp hz]; exact ⟨by decide, _, xn_IB, by decide +kernel, xl_IB⟩) (by decide) (by decide) xl_IA xc_IA (fun q => ?_)
    refine j_astore K dL_report_19 (by decide) ?_
    refine j_iconst K 2 dL_report_21 rfl ?_
    refine j_iret K dL_report_22 ?_
    exact ⟨rfl, hM⟩
set_option maxRecDepth 20000 in
set_option maxHeartbeats 400000 in
theorem wr_observe {l : Launch} {D : va_G} {ca : Nat → ClassId} {q0 : Nat} {sa : Nat → Nat} {ad : jAd} {lvl mc ms z z2 : Nat} {Lv Lv2 : jLv} {V V2 : jV} {Rf Rf2 : jR} (p0 p1 : Int32) (v : Int32) (hl0 : Lv 0 0 = true) (hl6 : Lv2 60 0 = true) (h : jMet l D ca q0 sa ad yX5_observe cX5_observe 4 (some .int) lvl mc ms [.ref (ad 0 0), .int p0, .int p1] (z, Lv, V, Rf) (jRet (some (.int v)) (z2, Lv2, V2, Rf2))) : jMetH l D ca q0 sa ad yL_observe cL_observe 5 (some .int) hL_observe (lvl + 1) mc ms [.ref (ad 0 0), .int p0, .int p1, .ref (ad 60 0)] (z, Lv, V, Rf) (fun o M9 => o = .inl (some (.int 0)) ∧ M9.2 = (Lv2, up V2 60 0 0 v, Rf2)) := by
  refine j_enterH RL [some (.ref (ad 0 0)), some (.int p0), some (.int p1), some (.ref (ad 60 0)), none] rfl (by decide) (by simp [Value.category]) (Nat.le_of_ble_eq_true rfl) rfl ?_
  intro p e s m args below meth c K hN hT
  refine j_aload_n K 3 dL_observe_0 rfl rfl ?_
  refine j_iconst K 0 dL_observe_1 rfl ?_
  refine j_aload_n K 0 dL_observe_2 rfl rfl ?_
  refine j_iload_n K 1 dL_observe_3 rfl rfl ?_
  refine j_iload_n K 2 dL_observe_4 rfl rfl ?_
  refine j_callV K dL_observe_5 m_X5_observe v_X5_observe k_L_50 rfl ⟨by decide, rfl⟩ hl0 h rfl rfl (by simp [Value.category]) ⟨(by show _ ≤ 6 + (lvl + 1); omega), (by show _ ≤ 100 + 30 * (lvl + 1); omega)⟩ (Nat.le_refl _) (Nat.le_refl _) (fun v9 M9 hq => ?_) (fun E9 M9 hq => ?_)
  · obtain ⟨h9, rfl⟩ := hq
    cases h9
    refine j_i2l K dL_observe_8 ?_
    refine jLast K 0 v dL_observe_9 rfl hl6 rfl (by decide) rfl ?_
    refine j_goto K 21 dL_observe_10 (by decide) ?_
    refine j_iconst K 0 dL_observe_21 rfl ?_
    refine j_iret K dL_observe_22 ?_
    exact ⟨rfl, rfl⟩
  · exact absurd hq.1 (fun w => nomatch w)
set_option maxRecDepth 20000 in
set_option maxHeartbeats 400000 in
theorem wx_observe_1 {l : Launch} {D : va_G} {ca : Nat → ClassId} {q0 : Nat} {sa : Nat → Nat} {ad : jAd} {lvl mc ms z z2 : Nat} {Lv Lv2 : jLv} {V V2 : jV} {Rf Rf2 : jR} (p0 p1 : Int32) (hl0 : Lv 0 0 = true) (h : jMet l D ca q0 sa ad yX5_observe cX5_observe 4 (some .int) lvl mc ms [.ref (ad 0 0), .int p0, .int p1] (z, Lv, V, Rf) (jExc "java/lang/IndexOutOfBoundsException" (z2, Lv2, V2, Rf2))) : jMetH l D ca q0 sa ad yL_observe cL_observe 5 (some .int) hL_observe (lvl + 1) mc ms [.ref (ad 0 0), .int p0, .int p1, .ref (ad 60 0)] (z, Lv, V, Rf) (fun o M9 => o = .inl (some (.int 1)) ∧ M9.2 = (Lv2, V2, Rf2)) := by
  refine j_enterH RL [some (.ref (ad 0 0)), some (.int p0), some (.int p1), some (.ref (ad 60 0)), none] rfl (by decide) (by simp [Value.category]) (Nat.le_of_ble_eq_true rfl) rfl ?_
  intro p e s m args below meth c K hN hT
  refine j_aload_n K 3 dL_observe_0 rfl rfl ?_
  refine j_iconst K 0 dL_observe_1 rfl ?_
  refine j_aload_n K 0 dL_observe_2 rfl rfl ?_
  refine j_iload_n K 1 dL_observe_3 rfl rfl ?_
  refine j_iload_n K 2 dL_observe_4 rfl rfl ?_
  refine j_callV K dL_observe_5 m_X5_observe v_X5_observe k_L_50 rfl ⟨by decide, rfl⟩ hl0 h rfl rfl (by simp [Value.category]) ⟨(by show _ ≤ 6 + (lvl + 1); omega), (by show _ ≤ 100 + 30 * (lvl + 1); omega)⟩ (Nat.le_refl _) (Nat.le_refl _) (fun v9 M9 hq => ?_) (fun E9 M9 hq => ?_)
  · exact absurd hq.1 (fun w => nomatch w)
  · obtain ⟨h9, hM⟩ := hq
    cases h9
    refine j_catch K hN [] [⟨0, 10, 17, 13⟩] ⟨0, 10, 13, 28⟩ (hT.trans rfl) xn_IB (fun z hz => absurd hz List.not_mem_nil) (by decide) (by decide) xl_IB xc_IB (fun q => ?_)
    refine j_astore K dL_observe_13 (by decide) ?_
    refine j_iconst K 1 dL_observe_15 rfl ?_
    refine j_iret K dL_observe_16 ?_
    exact ⟨rfl, hM⟩
set_option maxRecDepth 20000 in
set_option maxHeartbeats 400000 in
theorem wx_observe_2 {l : Launch} {D : va_G} {ca : Nat → ClassId} {q0 : Nat} {sa : Nat → Nat} {ad : jAd} {lvl mc ms z z2 : Nat} {Lv Lv2 : jLv} {V V2 : jV} {Rf Rf2 : jR} (p0 p1 : Int32) (hl0 : Lv 0 0 = true) (h : jMet l D ca q0 sa ad yX5_observe cX5_observe 4 (some .int) lvl mc ms [.ref (ad 0 0), .int p0, .int p1] (z, Lv, V, Rf) (jExc "java/lang/IllegalArgumentException" (z2, Lv2, V2, Rf2))) : jMetH l D ca q0 sa ad yL_observe cL_observe 5 (some .int) hL_observe (lvl + 1) mc ms [.ref (ad 0 0), .int p0, .int p1, .ref (ad 60 0)] (z, Lv, V, Rf) (fun o M9 => o = .inl (some (.int 2)) ∧ M9.2 = (Lv2, V2, Rf2)) := by
  refine j_enterH RL [some (.ref (ad 0 0)), some (.int p0), some (.int p1), some (.ref (ad 60 0)), none] rfl (by decide) (by simp [Value.category]) (Nat.le_of_ble_eq_true rfl) rfl ?_
  intro p e s m args below meth c K hN hT
  refine j_aload_n K 3 dL_observe_0 rfl rfl ?_
  refine j_iconst K 0 dL_observe_1 rfl ?_
  refine j_aload_n K 0 dL_observe_2 rfl rfl ?_
  refine j_iload_n K 1 dL_observe_3 rfl rfl ?_
  refine j_iload_n K 2 dL_observe_4 rfl rfl ?_
  refine j_callV K dL_observe_5 m_X5_observe v_X5_observe k_L_50 rfl ⟨by decide, rfl⟩ hl0 h rfl rfl (by simp [Value.category]) ⟨(by show _ ≤ 6 + (lvl + 1); omega), (by show _ ≤ 100 + 30 * (lvl + 1); omega)⟩ (Nat.le_refl _) (Nat.le_refl _) (fun v9 M9 hq => ?_) (fun E9 M9 hq => ?_)
  · exact absurd hq.1 (fun w => nomatch w)
  · obtain ⟨h9, hM⟩ := hq
    cases h9
    refine j_catch K hN [⟨0, 10, 13, 28⟩] [] ⟨0, 10, 17, 13⟩ (hT.trans rfl) xn_IA (fun z hz => by rw [List.mem_singleton.mp hz]; exact ⟨by decide, _, xn_IB, by decide +kernel, xl_IB⟩) (by decide) (by decide) xl_IA xc_IA (fun q => ?_)
    refine j_astore K dL_observe_17 (by decide) ?_
    refine j_iconst K 2 dL_observe_19 rfl ?_
    refine j_iret K dL_observe_20 ?_
    exact ⟨rfl, hM⟩
set_option maxRecDepth 20000 in
set_option maxHeartbeats 400000 in
theorem wr_correctionOf {l : Launch} {D : va_G} {ca : Nat → ClassId} {q0 : Nat} {sa : Nat → Nat} {ad : jAd} {lvl mc ms z z2 : Nat} {Lv Lv2 : jLv} {V V2 : jV} {Rf Rf2 : jR} (p0 : Int32) (v : Int32) (hl0 : Lv 0 0 = true) (hl6 : Lv2 60 0 = true) (h : jMet l D ca q0 sa ad yX5_correctionOf cX5_correctionOf 2 (some .int) lvl mc ms [.ref (ad 0 0), .int p0] (z, Lv, V, Rf) (jRet (some (.int v)) (z2, Lv2, V2, Rf2))) : jMetH l D ca q0 sa ad yL_correctionOf cL_correctionOf 4 (some .int) hL_correctionOf (lvl + 1) mc ms [.ref (ad 0 0), .int p0, .ref (ad 60 0)] (z, Lv, V, Rf) (fun o M9 => o = .inl (some (.int 0)) ∧ M9.2 = (Lv2, up V2 60 0 0 v, Rf2)) := by
  refine j_enterH RL [some (.ref (ad 0 0)), some (.int p0), some (.ref (ad 60 0)), none] rfl (by decide) (by simp [Value.category]) (Nat.le_of_ble_eq_true rfl) rfl ?_
  intro p e s m args below meth c K hN hT
  refine j_aload_n K 2 dL_correctionOf_0 rfl rfl ?_
  refine j_iconst K 0 dL_correctionOf_1 rfl ?_
  refine j_aload_n K 0 dL_correctionOf_2 rfl rfl ?_
  refine j_iload_n K 1 dL_correctionOf_3 rfl rfl ?_
  refine j_callV K dL_correctionOf_4 m_X5_correctionOf v_X5_correctionOf k_L_53 rfl ⟨by decide, rfl⟩ hl0 h rfl rfl (by simp [Value.category]) ⟨(by show _ ≤ 6 + (lvl + 1); omega), (by show _ ≤ 100 + 30 * (lvl + 1); omega)⟩ (Nat.le_refl _) (Nat.le_refl _) (fun v9 M9 hq => ?_) (fun E9 M9 hq => ?_)
  · obtain ⟨h9, rfl⟩ := hq
    cases h9
    refine j_i2l K dL_correctionOf_7 ?_
    refine jLast K 0 v dL_correctionOf_8 rfl hl6 rfl (by decide) rfl ?_
    refine j_goto K 15 dL_correctionOf_9 (by decide) ?_
    refine j_iconst K 0 dL_correctionOf_15 rfl ?_
    refine j_iret K dL_correctionOf_16 ?_
    exact ⟨rfl, rfl⟩
  · exact absurd hq.1 (fun w => nomatch w)
set_option maxRecDepth 20000 in
set_option maxHeartbeats 400000 in
theorem wx_correctionOf_1 {l : Launch} {D : va_G} {ca : Nat → ClassId} {q0 : Nat} {sa : Nat → Nat} {ad : jAd} {lvl mc ms z z2 : Nat} {Lv Lv2 : jLv} {V V2 : jV} {Rf Rf2 : jR} (p0 : Int32) (hl0 : Lv 0 0 = true) (h : jMet l D ca q0 sa ad yX5_correctionOf cX5_correctionOf 2 (some .int) lvl mc ms [.ref (ad 0 0), .int p0] (z, Lv, V, Rf) (jExc "java/lang/IndexOutOfBoundsException" (z2, Lv2, V2, Rf2))) : jMetH l D ca q0 sa ad yL_correctionOf cL_correctionOf 4 (some .int) hL_correctionOf (lvl + 1) mc ms [.ref (ad 0 0), .int p0, .ref (ad 60 0)] (z, Lv, V, Rf) (fun o M9 => o = .inl (some (.int 1)) ∧ M9.2 = (Lv2, V2, Rf2)) := by
  refine j_enterH RL [some (.ref (ad 0 0)), some (.int p0), some (.ref (ad 60 0)), none] rfl (by decide) (by simp [Value.category]) (Nat.le_of_ble_eq_true rfl) rfl ?_
  intro p e s m args below meth c K hN hT
  refine j_aload_n K 2 dL_correctionOf_0 rfl rfl ?_
  refine j_iconst K 0 dL_correctionOf_1 rfl ?_
  refine j_aload_n K 0 dL_correctionOf_2 rfl rfl ?_
  refine j_iload_n K 1 dL_correctionOf_3 rfl rfl ?_
  refine j_callV K dL_correctionOf_4 m_X5_correctionOf v_X5_correctionOf k_L_53 rfl ⟨by decide, rfl⟩ hl0 h rfl rfl (by simp [Value.category]) ⟨(by show _ ≤ 6 + (lvl + 1); omega), (by show _ ≤ 100 + 30 * (lvl + 1); omega)⟩ (Nat.le_refl _) (Nat.le_refl _) (fun v9 M9 hq => ?_) (fun E9 M9 hq => ?_)
  · exact absurd hq.1 (fun w => nomatch w)
  · obtain ⟨h9, hM⟩ := hq
    cases h9
    refine j_catch K hN [] [] ⟨0, 9, 12, 28⟩ (hT.trans rfl) xn_IB (fun z hz => absurd hz List.not_mem_nil) (by decide) (by decide) xl_IB xc_IB (fun q => ?_)
    refine j_astore_n K 3 dL_correctionOf_12 rfl (by decide) ?_
    refine j_iconst K 1 dL_correctionOf_13 rfl ?_
    refine j_iret K dL_correctionOf_14 ?_
    exact ⟨rfl, hM⟩
set_option maxRecDepth 20000 in
set_option maxHeartbeats 400000 in
theorem wr_trustOf {l : Launch} {D : va_G} {ca : Nat → ClassId} {q0 : Nat} {sa : Nat → Nat} {ad : jAd} {lvl mc ms z z2 : Nat} {Lv Lv2 : jLv} {V V2 : jV} {Rf Rf2 : jR} (p0 : Int32) (v : Int32) (hl0 : Lv 0 0 = true) (hl6 : Lv2 60 0 = true) (h : jMet l D ca q0 sa ad yX5_trustOf cX5_trustOf 2 (some .int) lvl mc ms [.ref (ad 0 0), .int p0] (z, Lv, V, Rf) (jRet (some (.int v)) (z2, Lv2, V2, Rf2))) : jMetH l D ca q0 sa ad yL_trustOf cL_trustOf 4 (some .int) hL_trustOf (lvl + 1) mc ms [.ref (ad 0 0), .int p0, .ref (ad 60 0)] (z, Lv, V, Rf) (fun o M9 => o = .inl (some (.int 0)) ∧ M9.2 = (Lv2, up V2 60 0 0 v, Rf2)) := by
  refine j_enterH RL [some (.ref (ad 0 0)), some (.int p0), some (.ref (ad 60 0)), none] rfl (by decide) (by simp [Value.category]) (Nat.le_of_ble_eq_true rfl) rfl ?_
  intro p e s m args below meth c K hN hT
  refine j_aload_n K 2 dL_trustOf_0 rfl rfl ?_
  refine j_iconst K 0 dL_trustOf_1 rfl ?_
  refine j_aload_n K 0 dL_trustOf_2 rfl rfl ?_
  refine j_iload_n K 1 dL_trustOf_3 rfl rfl ?_
  refine j_callV K dL_trustOf_4 m_X5_trustOf v_X5_trustOf k_L_56 rfl ⟨by decide, rfl⟩ hl0 h rfl rfl (by simp [Value.category]) ⟨(by show _ ≤ 6 + (lvl + 1); omega), (by show _ ≤ 100 + 30 * (lvl + 1); omega)⟩ (Nat.le_refl _) (Nat.le_refl _) (fun v9 M9 hq => ?_) (fun E9 M9 hq => ?_)
  · obtain ⟨h9, rfl⟩ := hq
    cases h9
    refine j_i2l K dL_trustOf_7 ?_
    refine jLast K 0 v dL_trustOf_8 rfl hl6 rfl (by decide) rfl ?_
    refine j_goto K 15 dL_trustOf_9 (by decide) ?_
    refine j_iconst K 0 dL_trustOf_15 rfl ?_
    refine j_iret K dL_trustOf_16 ?_
    exact ⟨rfl, rfl⟩
  · exact absurd hq.1 (fun w => nomatch w)
set_option maxRecDepth 20000 in
set_option maxHeartbeats 400000 in
theorem wx_trustOf_1 {l : Launch} {D : va_G} {ca : Nat → ClassId} {q0 : Nat} {sa : Nat → Nat} {ad : jAd} {lvl mc ms z z2 : Nat} {Lv Lv2 : jLv} {V V2 : jV} {Rf Rf2 : jR} (p0 : Int32) (hl0 : Lv 0 0 = true) (h : jMet l D ca q0 sa ad yX5_trustOf cX5_trustOf 2 (some .int) lvl mc ms [.ref (ad 0 0), .int p0] (z, Lv, V, Rf) (jExc "java/lang/IndexOutOfBoundsException" (z2, Lv2, V2, Rf2))) : jMetH l D ca q0 sa ad yL_trustOf cL_trustOf 4 (some .int) hL_trustOf (lvl + 1) mc ms [.ref (ad 0 0), .int p0, .ref (ad 60 0)] (z, Lv, V, Rf) (fun o M9 => o = .inl (some (.int 1)) ∧ M9.2 = (Lv2, V2, Rf2)) := by
  refine j_enterH RL [some (.ref (ad 0 0)), some (.int p0), some (.ref (ad 60 0)), none] rfl (by decide) (by simp [Value.category]) (Nat.le_of_ble_eq_true rfl) rfl ?_
  intro p e s m args below meth c K hN hT
  refine j_aload_n K 2 dL_trustOf_0 rfl rfl ?_
  refine j_iconst K 0 dL_trustOf_1 rfl ?_
  refine j_aload_n K 0 dL_trustOf_2 rfl rfl ?_
  refine j_iload_n K 1 dL_trustOf_3 rfl rfl ?_
  refine j_callV K dL_trustOf_4 m_X5_trustOf v_X5_trustOf k_L_56 rfl ⟨by decide, rfl⟩ hl0 h rfl rfl (by simp [Value.category]) ⟨(by show _ ≤ 6 + (lvl + 1); omega), (by show _ ≤ 100 + 30 * (lvl + 1); omega)⟩ (Nat.le_refl _) (Nat.le_refl _) (fun v9 M9 hq => ?_) (fun E9 M9 hq => ?_)
  · exact absurd hq.1 (fun w => nomatch w)
  · obtain ⟨h9, hM⟩ := hq
    cases h9
    refine j_catch K hN [] [] ⟨0, 9, 12, 28⟩ (hT.trans rfl) xn_IB (fun z hz => absurd hz List.not_mem_nil) (by decide) (by decide) xl_IB xc_IB (fun q => ?_)
    refine j_astore_n K 3 dL_trustOf_12 rfl (by decide) ?_
    refine j_iconst K 1 dL_trustOf_13 rfl ?_
    refine j_iret K dL_trustOf_14 ?_
    exact ⟨rfl, hM⟩
set_option maxRecDepth 20000 in
set_option maxHeartbeats 400000 in
theorem wr_reportCount {l : Launch} {D : va_G} {ca : Nat → ClassId} {q0 : Nat} {sa : Nat → Nat} {ad : jAd} {lvl mc ms z z2 : Nat} {Lv Lv2 : jLv} {V V2 : jV} {Rf Rf2 : jR} (p0 : Int32) (v : Int32) (hl0 : Lv 0 0 = true) (hl6 : Lv2 60 0 = true) (h : jMet l D ca q0 sa ad yX5_reportCount cX5_reportCount 2 (some .int) lvl mc ms [.ref (ad 0 0), .int p0] (z, Lv, V, Rf) (jRet (some (.int v)) (z2, Lv2, V2, Rf2))) : jMetH l D ca q0 sa ad yL_reportCount cL_reportCount 4 (some .int) hL_reportCount (lvl + 1) mc ms [.ref (ad 0 0), .int p0, .ref (ad 60 0)] (z, Lv, V, Rf) (fun o M9 => o = .inl (some (.int 0)) ∧ M9.2 = (Lv2, up V2 60 0 0 v, Rf2)) := by
  refine j_enterH RL [some (.ref (ad 0 0)), some (.int p0), some (.ref (ad 60 0)), none] rfl (by decide) (by simp [Value.category]) (Nat.le_of_ble_eq_true rfl) rfl ?_
  intro p e s m args below meth c K hN hT
  refine j_aload_n K 2 dL_reportCount_0 rfl rfl ?_
  refine j_iconst K 0 dL_reportCount_1 rfl ?_
  refine j_aload_n K 0 dL_reportCount_2 rfl rfl ?_
  refine j_iload_n K 1 dL_reportCount_3 rfl rfl ?_
  refine j_callV K dL_reportCount_4 m_X5_reportCount v_X5_reportCount k_L_59 rfl ⟨by decide, rfl⟩ hl0 h rfl rfl (by simp [Value.category]) ⟨(by show _ ≤ 6 + (lvl + 1); omega), (by show _ ≤ 100 + 30 * (lvl + 1); omega)⟩ (Nat.le_refl _) (Nat.le_refl _) (fun v9 M9 hq => ?_) (fun E9 M9 hq => ?_)
  · obtain ⟨h9, rfl⟩ := hq
    cases h9
    refine j_i2l K dL_reportCount_7 ?_
    refine jLast K 0 v dL_reportCount_8 rfl hl6 rfl (by decide) rfl ?_
    refine j_goto K 15 dL_reportCount_9 (by decide) ?_
    refine j_iconst K 0 dL_reportCount_15 rfl ?_
    refine j_iret K dL_reportCount_16 ?_
    exact ⟨rfl, rfl⟩
  · exact absurd hq.1 (fun w => nomatch w)
set_option maxRecDepth 20000 in
set_option maxHeartbeats 400000 in
theorem wx_reportCount_1 {l : Launch} {D : va_G} {ca : Nat → ClassId} {q0 : Nat} {sa : Nat → Nat} {ad : jAd} {lvl mc ms z z2 : Nat} {Lv Lv2 : jLv} {V V2 : jV} {Rf Rf2 : jR} (p0 : Int32) (hl0 : Lv 0 0 = true) (h : jMet l D ca q0 sa ad yX5_reportCount cX5_reportCount 2 (some .int) lvl mc ms [.ref (ad 0 0), .int p0] (z, Lv, V, Rf) (jExc "java/lang/IndexOutOfBoundsException" (z2, Lv2, V2, Rf2))) : jMetH l D ca q0 sa ad yL_reportCount cL_reportCount 4 (some .int) hL_reportCount (lvl + 1) mc ms [.ref (ad 0 0), .int p0, .ref (ad 60 0)] (z, Lv, V, Rf) (fun o M9 => o = .inl (some (.int 1)) ∧ M9.2 = (Lv2, V2, Rf2)) := by
  refine j_enterH RL [some (.ref (ad 0 0)), some (.int p0), some (.ref (ad 60 0)), none] rfl (by decide) (by simp [Value.category]) (Nat.le_of_ble_eq_true rfl) rfl ?_
  intro p e s m args below meth c K hN hT
  refine j_aload_n K 2 dL_reportCount_0 rfl rfl ?_
  refine j_iconst K 0 dL_reportCount_1 rfl ?_
  refine j_aload_n K 0 dL_reportCount_2 rfl rfl ?_
  refine j_iload_n K 1 dL_reportCount_3 rfl rfl ?_
  refine j_callV K dL_reportCount_4 m_X5_reportCount v_X5_reportCount k_L_59 rfl ⟨by decide, rfl⟩ hl0 h rfl rfl (by simp [Value.category]) ⟨(by show _ ≤ 6 + (lvl + 1); omega), (by show _ ≤ 100 + 30 * (lvl + 1); omega)⟩ (Nat.le_refl _) (Nat.le_refl _) (fun v9 M9 hq => ?_) (fun E9 M9 hq => ?_)
  · exact absurd hq.1 (fun w => nomatch w)
  · obtain ⟨h9, hM⟩ := hq
    cases h9
    refine j_catch K hN [] [] ⟨0, 9, 12, 28⟩ (hT.trans rfl) xn_IB (fun z hz => absurd hz List.not_mem_nil) (by decide) (by decide) xl_IB xc_IB (fun q => ?_)
    refine j_astore_n K 3 dL_reportCount_12 rfl (by decide) ?_
    refine j_iconst K 1 dL_reportCount_13 rfl ?_
    refine j_iret K dL_reportCount_14 ?_
    exact ⟨rfl, hM⟩
set_option maxRecDepth 20000 in
set_option maxHeartbeats 400000 in
theorem wr_reporterAt {l : Launch} {D : va_G} {ca : Nat → ClassId} {q0 : Nat} {sa : Nat → Nat} {ad : jAd} {lvl mc ms z z2 : Nat} {Lv Lv2 : jLv} {V V2 : jV} {Rf Rf2 : jR} (p0 p1 : Int32) (v : Int32) (hl0 : Lv 0 0 = true) (hl6 : Lv2 60 0 = true) (h : jMet l D ca q0 sa ad yX5_reporterAt cX5_reporterAt 4 (some .int) lvl mc ms [.ref (ad 0 0), .int p0, .int p1] (z, Lv, V, Rf) (jRet (some (.int v)) (z2, Lv2, V2, Rf2))) : jMetH l D ca q0 sa ad yL_reporterAt cL_reporterAt 5 (some .int) hL_reporterAt (lvl + 1) mc ms [.ref (ad 0 0), .int p0, .int p1, .ref (ad 60 0)] (z, Lv, V, Rf) (fun o M9 => o = .inl (some (.int 0)) ∧ M9.2 = (Lv2, up V2 60 0 0 v, Rf2)) := by
  refine j_enterH RL [some (.ref (ad 0 0)), some (.int p0), some (.int p1), some (.ref (ad 60 0)), none] rfl (by decide) (by simp [Value.category]) (Nat.le_of_ble_eq_true rfl) rfl ?_
  intro p e s m args below meth c K hN hT
  refine j_aload_n K 3 dL_reporterAt_0 rfl rfl ?_
  refine j_iconst K 0 dL_reporterAt_1 rfl ?_
  refine j_aload_n K 0 dL_reporterAt_2 rfl rfl ?_
  refine j_iload_n K 1 dL_reporterAt_3 rfl rfl ?_
  refine j_iload_n K 2 dL_reporterAt_4 rfl rfl ?_
  refine j_callV K dL_reporterAt_5 m_X5_reporterAt v_X5_reporterAt k_L_62 rfl ⟨by decide, rfl⟩ hl0 h rfl rfl (by simp [Value.category]) ⟨(by show _ ≤ 6 + (lvl + 1); omega), (by show _ ≤ 100 + 30 * (lvl + 1); omega)⟩ (Nat.le_refl _) (Nat.le_refl _) (fun v9 M9 hq => ?_) (fun E9 M9 hq => ?_)
  · obtain ⟨h9, rfl⟩ := hq
    cases h9
    refine j_i2l K dL_reporterAt_8 ?_
    refine jLast K 0 v dL_reporterAt_9 rfl hl6 rfl (by decide) rfl ?_
    refine j_goto K 21 dL_reporterAt_10 (by decide) ?_
    refine j_iconst K 0 dL_reporterAt_21 rfl ?_
    refine j_iret K dL_reporterAt_22 ?_
    exact ⟨rfl, rfl⟩
  · exact absurd hq.1 (fun w => nomatch w)
set_option maxRecDepth 20000 in
set_option maxHeartbeats 400000 in
theorem wx_reporterAt_1 {l : Launch} {D : va_G} {ca : Nat → ClassId} {q0 : Nat} {sa : Nat → Nat} {ad : jAd} {lvl mc ms z z2 : Nat} {Lv Lv2 : jLv} {V V2 : jV} {Rf Rf2 : jR} (p0 p1 : Int32) (hl0 : Lv 0 0 = true) (h : jMet l D ca q0 sa ad yX5_reporterAt cX5_reporterAt 4 (some .int) lvl mc ms [.ref (ad 0 0), .int p0, .int p1] (z, Lv, V, Rf) (jExc "java/lang/IndexOutOfBoundsException" (z2, Lv2, V2, Rf2))) : jMetH l D ca q0 sa ad yL_reporterAt cL_reporterAt 5 (some .int) hL_reporterAt (lvl + 1) mc ms [.ref (ad 0 0), .int p0, .int p1, .ref (ad 60 0)] (z, Lv, V, Rf) (fun o M9 => o = .inl (some (.int 1)) ∧ M9.2 = (Lv2, V2, Rf2)) := by
  refine j_enterH RL [some (.ref (ad 0 0)), some (.int p0), some (.int p1), some (.ref (ad 60 0)), none] rfl (by decide) (by simp [Value.category]) (Nat.le_of_ble_eq_true rfl) rfl ?_
  intro p e s m args below meth c K hN hT
  refine j_aload_n K 3 dL_reporterAt_0 rfl rfl ?_
  refine j_iconst K 0 dL_reporterAt_1 rfl ?_
  refine j_aload_n K 0 dL_reporterAt_2 rfl rfl ?_
  refine j_iload_n K 1 dL_reporterAt_3 rfl rfl ?_
  refine j_iload_n K 2 dL_reporterAt_4 rfl rfl ?_
  refine j_callV K dL_reporterAt_5 m_X5_reporterAt v_X5_reporterAt k_L_62 rfl ⟨by decide, rfl⟩ hl0 h rfl rfl (by simp [Value.category]) ⟨(by show _ ≤ 6 + (lvl + 1); omega), (by show _ ≤ 100 + 30 * (lvl + 1); omega)⟩ (Nat.le_refl _) (Nat.le_refl _) (fun v9 M9 hq => ?_) (fun E9 M9 hq => ?_)
  · exact absurd hq.1 (fun w => nomatch w)
  · obtain ⟨h9, hM⟩ := hq
    cases h9
    refine j_catch K hN [] [⟨0, 10, 17, 65⟩] ⟨0, 10, 13, 28⟩ (hT.trans rfl) xn_IB (fun z hz => absurd hz List.not_mem_nil) (by decide) (by decide) xl_IB xc_IB (fun q => ?_)
    refine j_astore K dL_reporterAt_13 (by decide) ?_
    refine j_iconst K 1 dL_reporterAt_15 rfl ?_
    refine j_iret K dL_reporterAt_16 ?_
    exact ⟨rfl, hM⟩
set_option maxRecDepth 20000 in
set_option maxHeartbeats 400000 in
theorem wx_reporterAt_2 {l : Launch} {D : va_G} {ca : Nat → ClassId} {q0 : Nat} {sa : Nat → Nat} {ad : jAd} {lvl mc ms z z2 : Nat} {Lv Lv2 : jLv} {V V2 : jV} {Rf Rf2 : jR} (p0 p1 : Int32) (hl0 : Lv 0 0 = true) (h : jMet l D ca q0 sa ad yX5_reporterAt cX5_reporterAt 4 (some .int) lvl mc ms [.ref (ad 0 0), .int p0, .int p1] (z, Lv, V, Rf) (jExc ns_C (z2, Lv2, V2, Rf2))) : jMetH l D ca q0 sa ad yL_reporterAt cL_reporterAt 5 (some .int) hL_reporterAt (lvl + 1) mc ms [.ref (ad 0 0), .int p0, .int p1, .ref (ad 60 0)] (z, Lv, V, Rf) (fun o M9 => o = .inl (some (.int 2)) ∧ M9.2 = (Lv2, V2, Rf2)) := by
  refine j_enterH RL [some (.ref (ad 0 0)), some (.int p0), some (.int p1), some (.ref (ad 60 0)), none] rfl (by decide) (by simp [Value.category]) (Nat.le_of_ble_eq_true rfl) rfl ?_
  intro p e s m args below meth c K hN hT
  refine j_aload_n K 3 dL_reporterAt_0 rfl rfl ?_
  refine j_iconst K 0 dL_reporterAt_1 rfl ?_
  refine j_aload_n K 0 dL_reporterAt_2 rfl rfl ?_
  refine j_iload_n K 1 dL_reporterAt_3 rfl rfl ?_
  refine j_iload_n K 2 dL_reporterAt_4 rfl rfl ?_
  refine j_callV K dL_reporterAt_5 m_X5_reporterAt v_X5_reporterAt k_L_62 rfl ⟨by decide, rfl⟩ hl0 h rfl rfl (by simp [Value.category]) ⟨(by show _ ≤ 6 + (lvl + 1); omega), (by show _ ≤ 100 + 30 * (lvl + 1); omega)⟩ (Nat.le_refl _) (Nat.le_refl _) (fun v9 M9 hq => ?_) (fun E9 M9 hq => ?_)
  · exact absurd hq.1 (fun w => nomatch w)
  · obtain ⟨h9, hM⟩ := hq
    cases h9
    refine j_catch K hN [⟨0, 10, 13, 28⟩] [] ⟨0, 10, 17, 65⟩ (hT.trans rfl) xn_NS (fun z hz => by rw [List.mem_singleton.mp hz]; exact ⟨by decide, _, xn_IB, by decide +kernel, xl_IB⟩) (by decide) (by decide) xl_NS xc_NS (fun q => ?_)
    refine j_astore K dL_reporterAt_17 (by decide) ?_
    refine j_iconst K 2 dL_reporterAt_19 rfl ?_
    refine j_iret K dL_reporterAt_20 ?_
    exact ⟨rfl, hM⟩
set_option maxRecDepth 20000 in
set_option maxHeartbeats 400000 in
theorem wr_reportedMinutes {l : Launch} {D : va_G} {ca : Nat → ClassId} {q0 : Nat} {sa : Nat → Nat} {ad : jAd} {lvl mc ms z z2 : Nat} {Lv Lv2 : jLv} {V V2 : jV} {Rf Rf2 : jR} (p0 p1 : Int32) (v : Int32) (hl0 : Lv 0 0 = true) (hl6 : Lv2 60 0 = true) (h : jMet l D ca q0 sa ad yX5_reportedMinutes cX5_reportedMinutes 4 (some .int) lvl mc ms [.ref (ad 0 0), .int p0, .int p1] (z, Lv, V, Rf) (jRet (some (.int v)) (z2, Lv2, V2, Rf2))) : jMetH l D ca q0 sa ad yL_reportedMinutes cL_reportedMinutes 5 (some .int) hL_reportedMinutes (lvl + 1) mc ms [.ref (ad 0 0), .int p0, .int p1, .ref (ad 60 0)] (z, Lv, V, Rf) (fun o M9 => o = .inl (some (.int 0)) ∧ M9.2 = (Lv2, up V2 60 0 0 v, Rf2)) := by
  refine j_enterH RL [some (.ref (ad 0 0)), some (.int p0), some (.int p1), some (.ref (ad 60 0)), none] rfl (by decide) (by simp [Value.category]) (Nat.le_of_ble_eq_true rfl) rfl ?_
  intro p e s m args below meth c K hN hT
  refine j_aload_n K 3 dL_reportedMinutes_0 rfl rfl ?_
  refine j_iconst K 0 dL_reportedMinutes_1 rfl ?_
  refine j_aload_n K 0 dL_reportedMinutes_2 rfl rfl ?_
  refine j_iload_n K 1 dL_reportedMinutes_3 rfl rfl ?_
  refine j_iload_n K 2 dL_reportedMinutes_4 rfl rfl ?_
  refine j_callV K dL_reportedMinutes_5 m_X5_reportedMinutes v_X5_reportedMinutes k_L_67 rfl ⟨by decide, rfl⟩ hl0 h rfl rfl (by simp [Value.category]) ⟨(by show _ ≤ 6 + (lvl + 1); omega), (by show _ ≤ 100 + 30 * (lvl + 1); omega)⟩ (Nat.le_refl _) (Nat.le_refl _) (fun v9 M9 hq => ?_) (fun E9 M9 hq => ?_)
  · obtain ⟨h9, rfl⟩ := hq
    cases h9
    refine j_i2l K dL_reportedMinutes_8 ?_
    refine jLast K 0 v dL_reportedMinutes_9 rfl hl6 rfl (by decide) rfl ?_
    refine j_goto K 21 dL_reportedMinutes_10 (by decide) ?_
    refine j_iconst K 0 dL_reportedMinutes_21 rfl ?_
    refine j_iret K dL_reportedMinutes_22 ?_
    exact ⟨rfl, rfl⟩
  · exact absurd hq.1 (fun w => nomatch w)
set_option maxRecDepth 20000 in
set_option maxHeartbeats 400000 in
theorem wx_reportedMinutes_1 {l : Launch} {D : va_G} {ca : Nat → ClassId} {q0 : Nat} {sa : Nat → Nat} {ad : jAd} {lvl mc ms z z2 : Nat} {Lv Lv2 : jLv} {V V2 : jV} {Rf Rf2 : jR} (p0 p1 : Int32) (hl0 : Lv 0 0 = true) (h : jMet l D ca q0 sa ad yX5_reportedMinutes cX5_reportedMinutes 4 (some .int) lvl mc ms [.ref (ad 0 0), .int p0, .int p1] (z, Lv, V, Rf) (jExc "java/lang/IndexOutOfBoundsException" (z2, Lv2, V2, Rf2))) : jMetH l D ca q0 sa ad yL_reportedMinutes cL_reportedMinutes 5 (some .int) hL_reportedMinutes (lvl + 1) mc ms [.ref (ad 0 0), .int p0, .int p1, .ref (ad 60 0)] (z, Lv, V, Rf) (fun o M9 => o = .inl (some (.int 1)) ∧ M9.2 = (Lv2, V2, Rf2)) := by
  refine j_enterH RL [some (.ref (ad 0 0)), some (.int p0), some (.int p1), some (.ref (ad 60 0)), none] rfl (by decide) (by simp [Value.category]) (Nat.le_of_ble_eq_true rfl) rfl ?_
  intro p e s m args below meth c K hN hT
  refine j_aload_n K 3 dL_reportedMinutes_0 rfl rfl ?_
  refine j_iconst K 0 dL_reportedMinutes_1 rfl ?_
  refine j_aload_n K 0 dL_reportedMinutes_2 rfl rfl ?_
  refine j_iload_n K 1 dL_reportedMinutes_3 rfl rfl ?_
  refine j_iload_n K 2 dL_reportedMinutes_4 rfl rfl ?_
  refine j_callV K dL_reportedMinutes_5 m_X5_reportedMinutes v_X5_reportedMinutes k_L_67 rfl ⟨by decide, rfl⟩ hl0 h rfl rfl (by simp [Value.category]) ⟨(by show _ ≤ 6 + (lvl + 1); omega), (by show _ ≤ 100 + 30 * (lvl + 1); omega)⟩ (Nat.le_refl _) (Nat.le_refl _) (fun v9 M9 hq => ?_) (fun E9 M9 hq => ?_)
  · exact absurd hq.1 (fun w => nomatch w)
  · obtain ⟨h9, hM⟩ := hq
    cases h9
    refine j_catch K hN [] [⟨0, 10, 17, 65⟩] ⟨0, 10, 13, 28⟩ (hT.trans rfl) xn_IB (fun z hz => absurd hz List.not_mem_nil) (by decide) (by decide) xl_IB xc_IB (fun q => ?_)
    refine j_astore K dL_reportedMinutes_13 (by decide) ?_
    refine j_iconst K 1 dL_reportedMinutes_15 rfl ?_
    refine j_iret K dL_reportedMinutes_16 ?_
    exact ⟨rfl, hM⟩
set_option maxRecDepth 20000 in
set_option maxHeartbeats 400000 in
theorem wx_reportedMinutes_2 {l : Launch} {D : va_G} {ca : Nat → ClassId} {q0 : Nat} {sa : Nat → Nat} {ad : jAd} {lvl mc ms z z2 : Nat} {Lv Lv2 : jLv} {V V2 : jV} {Rf Rf2 : jR} (p0 p1 : Int32) (hl0 : Lv 0 0 = true) (h : jMet l D ca q0 sa ad yX5_reportedMinutes cX5_reportedMinutes 4 (some .int) lvl mc ms [.ref (ad 0 0), .int p0, .int p1] (z, Lv, V, Rf) (jExc ns_C (z2, Lv2, V2, Rf2))) : jMetH l D ca q0 sa ad yL_reportedMinutes cL_reportedMinutes 5 (some .int) hL_reportedMinutes (lvl + 1) mc ms [.ref (ad 0 0), .int p0, .int p1, .ref (ad 60 0)] (z, Lv, V, Rf) (fun o M9 => o = .inl (some (.int 2)) ∧ M9.2 = (Lv2, V2, Rf2)) := by
  refine j_enterH RL [some (.ref (ad 0 0)), some (.int p0), some (.int p1), some (.ref (ad 60 0)), none] rfl (by decide) (by simp [Value.category]) (Nat.le_of_ble_eq_true rfl) rfl ?_
  intro p e s m args below meth c K hN hT
  refine j_aload_n K 3 dL_reportedMinutes_0 rfl rfl ?_
  refine j_iconst K 0 dL_reportedMinutes_1 rfl ?_
  refine j_aload_n K 0 dL_reportedMinutes_2 rfl rfl ?_
  refine j_iload_n K 1 dL_reportedMinutes_3 rfl rfl ?_
  refine j_iload_n K 2 dL_reportedMinutes_4 rfl rfl ?_
  refine j_callV K dL_reportedMinutes_5 m_X5_reportedMinutes v_X5_reportedMinutes k_L_67 rfl ⟨by decide, rfl⟩ hl0 h rfl rfl (by simp [Value.category]) ⟨(by show _ ≤ 6 + (lvl + 1); omega), (by show _ ≤ 100 + 30 * (lvl + 1); omega)⟩ (Nat.le_refl _) (Nat.le_refl _) (fun v9 M9 hq => ?_) (fun E9 M9 hq => ?_)
  · exact absurd hq.1 (fun w => nomatch w)
  · obtain ⟨h9, hM⟩ := hq
    cases h9
    refine j_catch K hN [⟨0, 10, 13, 28⟩] [] ⟨0, 10, 17, 65⟩ (hT.trans rfl) xn_NS (fun z hz => by rw [List.mem_singleton.mp hz]; exact ⟨by decide, _, xn_IB, by decide +kernel, xl_IB⟩) (by decide) (by decide) xl_NS xc_NS (fun q => ?_)
    refine j_astore K dL_reportedMinutes_17 (by decide) ?_
    refine j_iconst K 2 dL_reportedMinutes_19 rfl ?_
    refine j_iret K dL_reportedMinutes_20 ?_
    exact ⟨rfl, hM⟩
set_option maxRecDepth 20000 in
set_option maxHeartbeats 400000 in
theorem wr_reportAge {l : Launch} {D : va_G} {ca : Nat → ClassId} {q0 : Nat} {sa : Nat → Nat} {ad : jAd} {lvl mc ms z z2 : Nat} {Lv Lv2 : jLv} {V V2 : jV} {Rf Rf2 : jR} (p0 p1 : Int32) (v : Int32) (hl0 : Lv 0 0 = true) (hl6 : Lv2 60 0 = true) (h : jMet l D ca q0 sa ad yX5_reportAge cX5_reportAge 4 (some .int) lvl mc ms [.ref (ad 0 0), .int p0, .int p1] (z, Lv, V, Rf) (jRet (some (.int v)) (z2, Lv2, V2, Rf2))) : jMetH l D ca q0 sa ad yL_reportAge cL_reportAge 5 (some .int) hL_reportAge (lvl + 1) mc ms [.ref (ad 0 0), .int p0, .int p1, .ref (ad 60 0)] (z, Lv, V, Rf) (fun o M9 => o = .inl (some (.int 0)) ∧ M9.2 = (Lv2, up V2 60 0 0 v, Rf2)) := by
  refine j_enterH RL [some (.ref (ad 0 0)), some (.int p0), some (.int p1), some (.ref (ad 60 0)), none] rfl (by decide) (by simp [Value.category]) (Nat.le_of_ble_eq_true rfl) rfl ?_
  intro p e s m args below meth c K hN hT
  refine j_aload_n K 3 dL_reportAge_0 rfl rfl ?_
  refine j_iconst K 0 dL_reportAge_1 rfl ?_
  refine j_aload_n K 0 dL_reportAge_2 rfl rfl ?_
  refine j_iload_n K 1 dL_reportAge_3 rfl rfl ?_
  refine j_iload_n K 2 dL_reportAge_4 rfl rfl ?_
  refine j_callV K dL_reportAge_5 m_X5_reportAge v_X5_reportAge k_L_70 rfl ⟨by decide, rfl⟩ hl0 h rfl rfl (by simp [Value.category]) ⟨(by show _ ≤ 6 + (lvl + 1); omega), (by show _ ≤ 100 + 30 * (lvl + 1); omega)⟩ (Nat.le_refl _) (Nat.le_refl _) (fun v9 M9 hq => ?_) (fun E9 M9 hq => ?_)
  · obtain ⟨h9, rfl⟩ := hq
    cases h9
    refine j_i2l K dL_reportAge_8 ?_
    refine jLast K 0 v dL_reportAge_9 rfl hl6 rfl (by decide) rfl ?_
    refine j_goto K 21 dL_reportAge_10 (by decide) ?_
    refine j_iconst K 0 dL_reportAge_21 rfl ?_
    refine j_iret K dL_reportAge_22 ?_
    exact ⟨rfl, rfl⟩
  · exact absurd hq.1 (fun w => nomatch w)
set_option maxRecDepth 20000 in
set_option maxHeartbeats 400000 in
theorem wx_reportAge_1 {l : Launch} {D : va_G} {ca : Nat → ClassId} {q0 : Nat} {sa : Nat → Nat} {ad : jAd} {lvl mc ms z z2 : Nat} {Lv Lv2 : jLv} {V V2 : jV} {Rf Rf2 : jR} (p0 p1 : Int32) (hl0 : Lv 0 0 = true) (h : jMet l D ca q0 sa ad yX5_reportAge cX5_reportAge 4 (some .int) lvl mc ms [.ref (ad 0 0), .int p0, .int p1] (z, Lv, V, Rf) (jExc "java/lang/IndexOutOfBoundsException" (z2, Lv2, V2, Rf2))) : jMetH l D ca q0 sa ad yL_reportAge cL_reportAge 5 (some .int) hL_reportAge (lvl + 1) mc ms [.ref (ad 0 0), .int p0, .int p1, .ref (ad 60 0)] (z, Lv, V, Rf) (fun o M9 => o = .inl (some (.int 1)) ∧ M9.2 = (Lv2, V2, Rf2)) := by
  refine j_enterH RL [some (.ref (ad 0 0)), some (.int p0), some (.int p1), some (.ref (ad 60 0)), none] rfl (by decide) (by simp [Value.category]) (Nat.le_of_ble_eq_true rfl) rfl ?_
  intro p e s m args below meth c K hN hT
  refine j_aload_n K 3 dL_reportAge_0 rfl rfl ?_
  refine j_iconst K 0 dL_reportAge_1 rfl ?_
  refine j_aload_n K 0 dL_reportAge_2 rfl rfl ?_
  refine j_iload_n K 1 dL_reportAge_3 rfl rfl ?_
  refine j_iload_n K 2 dL_reportAge_4 rfl rfl ?_
  refine j_callV K dL_reportAge_5 m_X5_reportAge v_X5_reportAge k_L_70 rfl ⟨by decide, rfl⟩ hl0 h rfl rfl (by simp [Value.category]) ⟨(by show _ ≤ 6 + (lvl + 1); omega), (by show _ ≤ 100 + 30 * (lvl + 1); omega)⟩ (Nat.le_refl _) (Nat.le_refl _) (fun v9 M9 hq => ?_) (fun E9 M9 hq => ?_)
  · exact absurd hq.1 (fun w => nomatch w)
  · obtain ⟨h9, hM⟩ := hq
    cases h9
    refine j_catch K hN [] [⟨0, 10, 17, 65⟩] ⟨0, 10, 13, 28⟩ (hT.trans rfl) xn_IB (fun z hz => absurd hz List.not_mem_nil) (by decide) (by decide) xl_IB xc_IB (fun q => ?_)
    refine j_astore K dL_reportAge_13 (by decide) ?_
    refine j_iconst K 1 dL_reportAge_15 rfl ?_
    refine j_iret K dL_reportAge_16 ?_
    exact ⟨rfl, hM⟩
