set_option maxRecDepth 20000 in
set_option maxHeartbeats 400000 in
theorem c_M_pierCount {l : Launch} {D : va_G} {ca : Nat → ClassId} {q0 : Nat} {sa : Nat → Nat} {ad : jAd} {z n : Nat} {V : jV} : jMet l D ca q0 sa ad yX6_pierCount cX6_pierCount 1 (some .int) 0 0 0 [.ref (ad 20 0)] (jS z n V) (jRet (some (.int (V 20 0 1))) (jS z n (thr V 0))) := by
  refine j_enter RX6 [some (.ref (ad 20 0))] rfl (by decide) (by simp [Value.category]) (Nat.le_of_ble_eq_true rfl) rfl ?_
  intro p e s m args below meth c K hnm hX
  refine j_aload_n K 0 dX6_pierCount_0 rfl rfl ?_
  refine j_iconst K 0 dX6_pierCount_1 rfl ?_
  refine jPi K dX6_pierCount_2 fo_X6_83 rfl rfl rfl rfl (Or.inl rfl) ?_
  refine j_aload_n K 0 dX6_pierCount_5 rfl rfl ?_
  refine jGi K dX6_pierCount_6 f_X6_86 rfl rfl rfl ?_
  refine j_iret K dX6_pierCount_9 ?_
  exact ⟨rfl, rfl⟩
set_option maxRecDepth 20000 in
set_option maxHeartbeats 400000 in
theorem c_M_today {l : Launch} {D : va_G} {ca : Nat → ClassId} {q0 : Nat} {sa : Nat → Nat} {ad : jAd} {z n : Nat} {V : jV} : jMet l D ca q0 sa ad yX6_today cX6_today 1 (some .int) 0 0 0 [.ref (ad 20 0)] (jS z n V) (jRet (some (.int (V 20 0 2))) (jS z n (thr V 0))) := by
  refine j_enter RX6 [some (.ref (ad 20 0))] rfl (by decide) (by simp [Value.category]) (Nat.le_of_ble_eq_true rfl) rfl ?_
  intro p e s m args below meth c K hnm hX
  refine j_aload_n K 0 dX6_today_0 rfl rfl ?_
  refine j_iconst K 0 dX6_today_1 rfl ?_
  refine jPi K dX6_today_2 fo_X6_83 rfl rfl rfl rfl (Or.inl rfl) ?_
  refine j_aload_n K 0 dX6_today_5 rfl rfl ?_
  refine jGi K dX6_today_6 f_X6_102 rfl rfl rfl ?_
  refine j_iret K dX6_today_9 ?_
  exact ⟨rfl, rfl⟩
set_option maxRecDepth 20000 in
set_option maxHeartbeats 400000 in
theorem c_M_paintUsed {l : Launch} {D : va_G} {ca : Nat → ClassId} {q0 : Nat} {sa : Nat → Nat} {ad : jAd} {z n : Nat} {V : jV} : jMet l D ca q0 sa ad yX6_paintUsed cX6_paintUsed 1 (some .int) 0 0 0 [.ref (ad 20 0)] (jS z n V) (jRet (some (.int (V 20 0 15))) (jS z n (thr V 0))) := by
  refine j_enter RX6 [some (.ref (ad 20 0))] rfl (by decide) (by simp [Value.category]) (Nat.le_of_ble_eq_true rfl) rfl ?_
  intro p e s m args below meth c K hnm hX
  refine j_aload_n K 0 dX6_paintUsed_0 rfl rfl ?_
  refine j_iconst K 0 dX6_paintUsed_1 rfl ?_
  refine jPi K dX6_paintUsed_2 fo_X6_83 rfl rfl rfl rfl (Or.inl rfl) ?_
  refine j_aload_n K 0 dX6_paintUsed_5 rfl rfl ?_
  refine jGi K dX6_paintUsed_6 f_X6_177 rfl rfl rfl ?_
  refine j_iret K dX6_paintUsed_9 ?_
  exact ⟨rfl, rfl⟩
set_option maxRecDepth 20000 in
set_option maxHeartbeats 400000 in
theorem c_M_paintDripped {l : Launch} {D : va_G} {ca : Nat → ClassId} {q0 : Nat} {sa : Nat → Nat} {ad : jAd} {z n : Nat} {V : jV} : jMet l D ca q0 sa ad yX6_paintDripped cX6_paintDripped 1 (some .int) 0 0 0 [.ref (ad 20 0)] (jS z n V) (jRet (some (.int (V 20 0 16))) (jS z n (thr V 0))) := by
  refine j_enter RX6 [some (.ref (ad 20 0))] rfl (by decide) (by simp [Value.category]) (Nat.le_of_ble_eq_true rfl) rfl ?_
  intro p e s m args below meth c K hnm hX
  refine j_aload_n K 0 dX6_paintDripped_0 rfl rfl ?_
  refine j_iconst K 0 dX6_paintDripped_1 rfl ?_
  refine jPi K dX6_paintDripped_2 fo_X6_83 rfl rfl rfl rfl (Or.inl rfl) ?_
  refine j_aload_n K 0 dX6_paintDripped_5 rfl rfl ?_
  refine jGi K dX6_paintDripped_6 f_X6_180 rfl rfl rfl ?_
  refine j_iret K dX6_paintDripped_9 ?_
  exact ⟨rfl, rfl⟩
set_option maxRecDepth 20000 in
set_option maxHeartbeats 400000 in
theorem c_M_paintPoured {l : Launch} {D : va_G} {ca : Nat → ClassId} {q0 : Nat} {sa : Nat → Nat} {ad : jAd} {z n : Nat} {V : jV} : jMet l D ca q0 sa ad yX6_paintPoured cX6_paintPoured 1 (some .int) 0 0 0 [.ref (ad 20 0)] (jS z n V) (jRet (some (.int (V 20 0 17))) (jS z n (thr V 0))) := by
  refine j_enter RX6 [some (.ref (ad 20 0))] rfl (by decide) (by simp [Value.category]) (Nat.le_of_ble_eq_true rfl) rfl ?_
  intro p e s m args below meth c K hnm hX
  refine j_aload_n K 0 dX6_paintPoured_0 rfl rfl ?_
  refine j_iconst K 0 dX6_paintPoured_1 rfl ?_
  refine jPi K dX6_paintPoured_2 fo_X6_83 rfl rfl rfl rfl (Or.inl rfl) ?_
  refine j_aload_n K 0 dX6_paintPoured_5 rfl rfl ?_
  refine jGi K dX6_paintPoured_6 f_X6_170 rfl rfl rfl ?_
  refine j_iret K dX6_paintPoured_9 ?_
  exact ⟨rfl, rfl⟩
set_option maxRecDepth 20000 in
set_option maxHeartbeats 400000 in
theorem c_M_jobPier {l : Launch} {D : va_G} {ca : Nat → ClassId} {q0 : Nat} {sa : Nat → Nat} {ad : jAd} {z n : Nat} {V : jV} : jMet l D ca q0 sa ad yX6_jobPier cX6_jobPier 1 (some .int) 0 0 0 [.ref (ad 20 0)] (jS z n V) (jRet (some (.int (V 20 0 19))) (jS z n (thr V 0))) := by
  refine j_enter RX6 [some (.ref (ad 20 0))] rfl (by decide) (by simp [Value.category]) (Nat.le_of_ble_eq_true rfl) rfl ?_
  intro p e s m args below meth c K hnm hX
  refine j_aload_n K 0 dX6_jobPier_0 rfl rfl ?_
  refine j_iconst K 0 dX6_jobPier_1 rfl ?_
  refine jPi K dX6_jobPier_2 fo_X6_83 rfl rfl rfl rfl (Or.inl rfl) ?_
  refine j_aload_n K 0 dX6_jobPier_5 rfl rfl ?_
  refine jGi K dX6_jobPier_6 f_X6_49 rfl rfl rfl ?_
  refine j_iret K dX6_jobPier_9 ?_
  exact ⟨rfl, rfl⟩
set_option maxRecDepth 20000 in
set_option maxHeartbeats 400000 in
theorem c_M_thrown {l : Launch} {D : va_G} {ca : Nat → ClassId} {q0 : Nat} {sa : Nat → Nat} {ad : jAd} {z n : Nat} {V : jV} : jMet l D ca q0 sa ad yX6_thrown cX6_thrown 1 (some .int) 0 0 0 [.ref (ad 20 0)] (jS z n V) (jRet (some (.int (V 20 0 0))) (jS z n V)) := by
  refine j_enter RX6 [some (.ref (ad 20 0))] rfl (by decide) (by simp [Value.category]) (Nat.le_of_ble_eq_true rfl) rfl ?_
  intro p e s m args below meth c K hnm hX
  refine j_aload_n K 0 dX6_thrown_0 rfl rfl ?_
  refine jGi K dX6_thrown_1 f_X6_83 rfl rfl rfl ?_
  refine j_iret K dX6_thrown_4 ?_
  exact ⟨rfl, rfl⟩
set_option maxRecDepth 20000 in
set_option maxHeartbeats 400000 in
theorem c_M_moonAge {l : Launch} {D : va_G} {ca : Nat → ClassId} {q0 : Nat} {sa : Nat → Nat} {ad : jAd} {z n : Nat} {V : jV} (d : Int32) (hd : 0 ≤ d ∧ d ≤ 99999)  : jMet l D ca q0 sa ad yX6_moonAge cX6_moonAge 2 (some .int) 2 0 0 [.ref (ad 20 0), .int d] (jS z n V) (jRet (some (.int (moonOf d))) (jS z n (thr V 0))) := by
  refine j_enter RX6 [some (.ref (ad 20 0)), some (.int d)] rfl (by decide) (by simp [Value.category]) (Nat.le_of_ble_eq_true rfl) rfl ?_
  intro p e s m args below meth c K hnm hX
  refine j_aload_n K 0 dX6_moonAge_0 rfl rfl ?_
  refine j_iload_n K 1 dX6_moonAge_1 rfl rfl ?_
  refine j_cS1r K dX6_moonAge_2 m_X6_isDay s_X6_isDay k_X6_121 (c_MD _ hd) (Nat.le_of_ble_eq_true rfl) ⟨by decide, by decide⟩ (by decide) (by decide) ?_
  refine j_iconst K 1 dX6_moonAge_5 rfl ?_
  refine j_cV2r K dX6_moonAge_6 m_X6_isGood v_X6_isGood k_X6_93 rfl ⟨by decide, rfl⟩ rfl (c_MG _) (Nat.le_of_ble_eq_true rfl) ⟨by decide, by decide⟩ (by decide) (by decide) ?_
  refine j_if_eq K 19 dX6_moonAge_9 (by decide) (fun h_9 => absurd h_9 (by decide)) (fun h_9 => ?_)
  refine j_iload_n K 1 dX6_moonAge_12 rfl rfl ?_
  refine j_cS1r K dX6_moonAge_13 m_X6_moon s_X6_moon k_X6_112 (c_Mmoon _) (Nat.le_of_ble_eq_true rfl) ⟨by decide, by decide⟩ (by decide) (by decide) ?_
  refine j_goto K 20 dX6_moonAge_16 (by decide) ?_
  refine j_iret K dX6_moonAge_20 ?_
  exact ⟨rfl, rfl⟩
set_option maxRecDepth 20000 in
set_option maxHeartbeats 400000 in
theorem c_M_moonAgex {l : Launch} {D : va_G} {ca : Nat → ClassId} {q0 : Nat} {sa : Nat → Nat} {ad : jAd} {z n : Nat} {V : jV} (d : Int32) (h : ¬ (0 ≤ d ∧ d ≤ 99999))  : jMet l D ca q0 sa ad yX6_moonAge cX6_moonAge 2 (some .int) 2 0 0 [.ref (ad 20 0), .int d] (jS z n V) (jRet (some (.int 0)) (jS z n (thr V 1))) := by
  refine j_enter RX6 [some (.ref (ad 20 0)), some (.int d)] rfl (by decide) (by simp [Value.category]) (Nat.le_of_ble_eq_true rfl) rfl ?_
  intro p e s m args below meth c K hnm hX
  refine j_aload_n K 0 dX6_moonAge_0 rfl rfl ?_
  refine j_iload_n K 1 dX6_moonAge_1 rfl rfl ?_
  refine j_cS1r K dX6_moonAge_2 m_X6_isDay s_X6_isDay k_X6_121 (c_MD0 _ h) (Nat.le_of_ble_eq_true rfl) ⟨by decide, by decide⟩ (by decide) (by decide) ?_
  refine j_iconst K 1 dX6_moonAge_5 rfl ?_
  refine j_cV2r K dX6_moonAge_6 m_X6_isGood v_X6_isGood k_X6_93 rfl ⟨by decide, rfl⟩ rfl (c_MG0 _) (Nat.le_of_ble_eq_true rfl) ⟨by decide, by decide⟩ (by decide) (by decide) ?_
  refine j_if_eq K 19 dX6_moonAge_9 (by decide) (fun h_9 => ?_) (fun h_9 => absurd (by decide) h_9)
  refine j_iconst K 0 dX6_moonAge_19 rfl ?_
  refine j_iret K dX6_moonAge_20 ?_
  exact ⟨rfl, rfl⟩
set_option maxRecDepth 20000 in
set_option maxHeartbeats 400000 in
theorem c_M_rangeOfx1 {l : Launch} {D : va_G} {ca : Nat → ClassId} {q0 : Nat} {sa : Nat → Nat} {ad : jAd} {z n : Nat} {V : jV} (x d : Int32) (hI : n ≤ 6 ∧ V 20 0 1 = nI n) (h : ¬ okP n x)  : jMet l D ca q0 sa ad yX6_rangeOf cX6_rangeOf 3 (some .int) 2 0 0 [.ref (ad 20 0), .int x, .int d] (jS z n V) (jRet (some (.int 0)) (jS z n (thr V 1))) := by
  refine j_enter RX6 [some (.ref (ad 20 0)), some (.int x), some (.int d)] rfl (by decide) (by simp [Value.category]) (Nat.le_of_ble_eq_true rfl) rfl ?_
  intro p e s m args below meth c K hnm hX
  have hn6 := hI.1
  have hp := hI.2
  refine j_aload_n K 0 dX6_rangeOf_0 rfl rfl ?_
  refine j_iload_n K 1 dX6_rangeOf_1 rfl rfl ?_
  refine j_cV1r K dX6_rangeOf_2 m_X6_isPier v_X6_isPier k_X6_125 rfl ⟨by decide, rfl⟩ rfl (c_MP0 _ hI h) (Nat.le_of_ble_eq_true rfl) ⟨by decide, by decide⟩ (by decide) (by decide) ?_
  refine j_if_ne K 10 dX6_rangeOf_5 (by decide) (fun h_5 => absurd (by decide) h_5) (fun h_5 => ?_)
  refine j_iconst K 0 dX6_rangeOf_8 rfl ?_
  refine j_iret K dX6_rangeOf_9 ?_
  exact ⟨rfl, rfl⟩
set_option maxRecDepth 20000 in
set_option maxHeartbeats 400000 in
theorem c_M_rangeOfx2 {l : Launch} {D : va_G} {ca : Nat → ClassId} {q0 : Nat} {sa : Nat → Nat} {ad : jAd} {z n a : Nat} {V : jV} (x d : Int32) (hI : n ≤ 6 ∧ V 20 0 1 = nI n) (ha : a < n) (hx : x = nI a) (h : ¬ (0 ≤ d ∧ d ≤ 99999))  : jMet l D ca q0 sa ad yX6_rangeOf cX6_rangeOf 3 (some .int) 2 0 0 [.ref (ad 20 0), .int x, .int d] (jS z n V) (jRet (some (.int 0)) (jS z n (thr (thr V 0) 2))) := by
  refine j_enter RX6 [some (.ref (ad 20 0)), some (.int x), some (.int d)] rfl (by decide) (by simp [Value.category]) (Nat.le_of_ble_eq_true rfl) rfl ?_
  intro p e s m args below meth c K hnm hX
  have hn6 := hI.1
  have hp := hI.2
  refine j_aload_n K 0 dX6_rangeOf_0 rfl rfl ?_
  refine j_iload_n K 1 dX6_rangeOf_1 rfl rfl ?_
  refine j_cV1r K dX6_rangeOf_2 m_X6_isPier v_X6_isPier k_X6_125 rfl ⟨by decide, rfl⟩ rfl (c_MP _ hI ⟨a, ha, hx⟩) (Nat.le_of_ble_eq_true rfl) ⟨by decide, by decide⟩ (by decide) (by decide) ?_
  refine j_if_ne K 10 dX6_rangeOf_5 (by decide) (fun h_5 => ?_) (fun h_5 => absurd h_5 (by decide))
  refine j_iload_n K 2 dX6_rangeOf_10 rfl rfl ?_
  refine j_cS1r K dX6_rangeOf_11 m_X6_isDay s_X6_isDay k_X6_121 (c_MD0 _ h) (Nat.le_of_ble_eq_true rfl) ⟨by decide, by decide⟩ (by decide) (by decide) ?_
  refine j_if_eq K 26 dX6_rangeOf_14 (by decide) (fun h_14 => ?_) (fun h_14 => absurd (by decide) h_14)
  refine j_aload_n K 0 dX6_rangeOf_26 rfl rfl ?_
  refine j_iconst K 2 dX6_rangeOf_27 rfl ?_
  refine j_cV1r K dX6_rangeOf_28 m_X6_fail v_X6_fail k_X6_98 rfl ⟨by decide, rfl⟩ rfl (c_MF _) (Nat.le_of_ble_eq_true rfl) ⟨by decide, by decide⟩ (by decide) (by decide) ?_
  refine j_iret K dX6_rangeOf_31 ?_
  exact ⟨rfl, rfl⟩
set_option maxRecDepth 20000 in
set_option maxHeartbeats 400000 in
theorem c_M_rangeOf {l : Launch} {D : va_G} {ca : Nat → ClassId} {q0 : Nat} {sa : Nat → Nat} {ad : jAd} {z n a : Nat} {V : jV} (x d : Int32) (hI : n ≤ 6 ∧ V 20 0 1 = nI n) (ha : a < n) (hx : x = nI a) (hd : 0 ≤ d ∧ d ≤ 99999)  : jMet l D ca q0 sa ad yX6_rangeOf cX6_rangeOf 3 (some .int) 2 0 0 [.ref (ad 20 0), .int x, .int d] (jS z n V) (jRet (some (.int (rangeY V a d))) (jS z n (thr V 0))) := by
  refine j_enter RX6 [some (.ref (ad 20 0)), some (.int x), some (.int d)] rfl (by decide) (by simp [Value.category]) (Nat.le_of_ble_eq_true rfl) rfl ?_
  intro p e s m args below meth c K hnm hX
  have hn6 := hI.1
  have hp := hI.2
  refine j_aload_n K 0 dX6_rangeOf_0 rfl rfl ?_
  refine j_iload_n K 1 dX6_rangeOf_1 rfl rfl ?_
  refine j_cV1r K dX6_rangeOf_2 m_X6_isPier v_X6_isPier k_X6_125 rfl ⟨by decide, rfl⟩ rfl (c_MP _ hI ⟨a, ha, hx⟩) (Nat.le_of_ble_eq_true rfl) ⟨by decide, by decide⟩ (by decide) (by decide) ?_
  refine j_if_ne K 10 dX6_rangeOf_5 (by decide) (fun h_5 => ?_) (fun h_5 => absurd h_5 (by decide))
  refine j_iload_n K 2 dX6_rangeOf_10 rfl rfl ?_
  refine j_cS1r K dX6_rangeOf_11 m_X6_isDay s_X6_isDay k_X6_121 (c_MD _ hd) (Nat.le_of_ble_eq_true rfl) ⟨by decide, by decide⟩ (by decide) (by decide) ?_
  refine j_if_eq K 26 dX6_rangeOf_14 (by decide) (fun h_14 => absurd h_14 (by decide)) (fun h_14 => ?_)
  refine j_aload_n K 0 dX6_rangeOf_17 rfl rfl ?_
  refine j_iload_n K 1 dX6_rangeOf_18 rfl rfl ?_
  refine j_iload_n K 2 dX6_rangeOf_19 rfl rfl ?_
  refine j_cV2r K dX6_rangeOf_20 m_X6_range v_X6_range k_X6_128 rfl ⟨by decide, rfl⟩ rfl (c_Mrange _ _ hn6 ha hx) (Nat.le_of_ble_eq_true rfl) ⟨by decide, by decide⟩ (by decide) (by decide) ?_
  refine j_goto K 31 dX6_rangeOf_23 (by decide) ?_
  refine j_iret K dX6_rangeOf_31 ?_
  exact ⟨rfl, rfl⟩
set_option maxRecDepth 20000 in
set_option maxHeartbeats 400000 in
theorem c_M_waterCountx1 {l : Launch} {D : va_G} {ca : Nat → ClassId} {q0 : Nat} {sa : Nat → Nat} {ad : jAd} {z n : Nat} {V : jV} (x d : Int32) (hI : n ≤ 6 ∧ V 20 0 1 = nI n) (h : ¬ okP n x)  : jMet l D ca q0 sa ad yX6_waterCount cX6_waterCount 3 (some .int) 3 0 0 [.ref (ad 20 0), .int x, .int d] (jS z n V) (jRet (some (.int 0)) (jS z n (thr V 1))) := by
  refine j_enter RX6 [some (.ref (ad 20 0)), some (.int x), some (.int d)] rfl (by decide) (by simp [Value.category]) (Nat.le_of_ble_eq_true rfl) rfl ?_
  intro p e s m args below meth c K hnm hX
  have hn6 := hI.1
  have hp := hI.2
  refine j_aload_n K 0 dX6_waterCount_0 rfl rfl ?_
  refine j_iload_n K 1 dX6_waterCount_1 rfl rfl ?_
  refine j_cV1r K dX6_waterCount_2 m_X6_isPier v_X6_isPier k_X6_125 rfl ⟨by decide, rfl⟩ rfl (c_MP0 _ hI h) (Nat.le_of_ble_eq_true rfl) ⟨by decide, by decide⟩ (by decide) (by decide) ?_
  refine j_if_ne K 10 dX6_waterCount_5 (by decide) (fun h_5 => absurd (by decide) h_5) (fun h_5 => ?_)
  refine j_iconst K 0 dX6_waterCount_8 rfl ?_
  refine j_iret K dX6_waterCount_9 ?_
  exact ⟨rfl, rfl⟩
set_option maxRecDepth 20000 in
set_option maxHeartbeats 400000 in
theorem c_M_waterCountx2 {l : Launch} {D : va_G} {ca : Nat → ClassId} {q0 : Nat} {sa : Nat → Nat} {ad : jAd} {z n a : Nat} {V : jV} (x d : Int32) (hI : n ≤ 6 ∧ V 20 0 1 = nI n) (ha : a < n) (hx : x = nI a) (h : ¬ (0 ≤ d ∧ d ≤ 99999))  : jMet l D ca q0 sa ad yX6_waterCount cX6_waterCount 3 (some .int) 3 0 0 [.ref (ad 20 0), .int x, .int d] (jS z n V) (jRet (some (.int 0)) (jS z n (thr (thr V 0) 2))) := by
  refine j_enter RX6 [some (.ref (ad 20 0)), some (.int x), some (.int d)] rfl (by decide) (by simp [Value.category]) (Nat.le_of_ble_eq_true rfl) rfl ?_
  intro p e s m args below meth c K hnm hX
  have hn6 := hI.1
  have hp := hI.2
  refine j_aload_n K 0 dX6_waterCount_0 rfl rfl ?_
  refine j_iload_n K 1 dX6_waterCount_1 rfl rfl ?_
  refine j_cV1r K dX6_waterCount_2 m_X6_isPier v_X6_isPier k_X6_125 rfl ⟨by decide, rfl⟩ rfl (c_MP _ hI ⟨a, ha, hx⟩) (Nat.le_of_ble_eq_true rfl) ⟨by decide, by decide⟩ (by decide) (by decide) ?_
  refine j_if_ne K 10 dX6_waterCount_5 (by decide) (fun h_5 => ?_) (fun h_5 => absurd h_5 (by decide))
  refine j_iload_n K 2 dX6_waterCount_10 rfl rfl ?_
  refine j_cS1r K dX6_waterCount_11 m_X6_isDay s_X6_isDay k_X6_121 (c_MD0 _ h) (Nat.le_of_ble_eq_true rfl) ⟨by decide, by decide⟩ (by decide) (by decide) ?_
  refine j_if_ne K 23 dX6_waterCount_14 (by decide) (fun h_14 => absurd (by decide) h_14) (fun h_14 => ?_)
  refine j_aload_n K 0 dX6_waterCount_17 rfl rfl ?_
  refine j_iconst K 2 dX6_waterCount_18 rfl ?_
  refine j_cV1r K dX6_waterCount_19 m_X6_fail v_X6_fail k_X6_98 rfl ⟨by decide, rfl⟩ rfl (c_MF _) (Nat.le_of_ble_eq_true rfl) ⟨by decide, by decide⟩ (by decide) (by decide) ?_
  refine j_iret K dX6_waterCount_22 ?_
  exact ⟨rfl, rfl⟩
set_option maxRecDepth 20000 in
set_option maxHeartbeats 400000 in
theorem c_M_waterCount {l : Launch} {D : va_G} {ca : Nat → ClassId} {q0 : Nat} {sa : Nat → Nat} {ad : jAd} {z n a cnt : Nat} {V : jV} (x d : Int32) (hI : n ≤ 6 ∧ V 20 0 1 = nI n) (ha : a < n) (hx : x = nI a) (hd : 0 ≤ d ∧ d ≤ 99999) (hR : YR V a cnt)  : jMet l D ca q0 sa ad yX6_waterCount cX6_waterCount 3 (some .int) 3 0 0 [.ref (ad 20 0), .int x, .int d] (jS z n V) (jRet (some (.int (tabY (thr V 0) a cnt d 20 0 29))) (jS z n (tabY (thr V 0) a cnt d))) := by
  refine j_enter RX6 [some (.ref (ad 20 0)), some (.int x), some (.int d)] rfl (by decide) (by simp [Value.category]) (Nat.le_of_ble_eq_true rfl) rfl ?_
  intro p e s m args below meth c K hnm hX
  have hn6 := hI.1
  have hp := hI.2
  refine j_aload_n K 0 dX6_waterCount_0 rfl rfl ?_
  refine j_iload_n K 1 dX6_waterCount_1 rfl rfl ?_
  refine j_cV1r K dX6_waterCount_2 m_X6_isPier v_X6_isPier k_X6_125 rfl ⟨by decide, rfl⟩ rfl (c_MP _ hI ⟨a, ha, hx⟩) (Nat.le_of_ble_eq_true rfl) ⟨by decide, by decide⟩ (by decide) (by decide) ?_
  refine j_if_ne K 10 dX6_waterCount_5 (by decide) (fun h_5 => ?_) (fun h_5 => absurd h_5 (by decide))
  refine j_iload_n K 2 dX6_waterCount_10 rfl rfl ?_
  refine j_cS1r K dX6_waterCount_11 m_X6_isDay s_X6_isDay k_X6_121 (c_MD _ hd) (Nat.le_of_ble_eq_true rfl) ⟨by decide, by decide⟩ (by decide) (by decide) ?_
  refine j_if_ne K 23 dX6_waterCount_14 (by decide) (fun h_14 => ?_) (fun h_14 => absurd h_14 (by decide))
  refine j_aload_n K 0 dX6_waterCount_23 rfl rfl ?_
  refine j_iload_n K 1 dX6_waterCount_24 rfl rfl ?_
  refine j_iload_n K 2 dX6_waterCount_25 rfl rfl ?_
  refine j_cV2n K dX6_waterCount_26 m_X6_findTable v_X6_findTable k_X6_140 rfl ⟨by decide, rfl⟩ rfl (c_Mfind (V := thr V 0) _ _ hn6 ha hx hR) (Nat.le_of_ble_eq_true rfl) ⟨by decide, by decide⟩ (by decide) (by decide) ?_
  refine j_aload_n K 0 dX6_waterCount_29 rfl rfl ?_
  refine jGi K dX6_waterCount_30 f_X6_134 rfl rfl rfl ?_
  refine j_iret K dX6_waterCount_33 ?_
  exact ⟨rfl, rfl⟩
set_option maxRecDepth 20000 in
set_option maxHeartbeats 400000 in
theorem c_M_reportCountx1 {l : Launch} {D : va_G} {ca : Nat → ClassId} {q0 : Nat} {sa : Nat → Nat} {ad : jAd} {z n : Nat} {V : jV} (x : Int32) (hI : n ≤ 6 ∧ V 20 0 1 = nI n) (h : ¬ okP n x)  : jMet l D ca q0 sa ad yX6_reportCount cX6_reportCount 2 (some .int) 2 0 0 [.ref (ad 20 0), .int x] (jS z n V) (jRet (some (.int 0)) (jS z n (thr V 1))) := by
  refine j_enter RX6 [some (.ref (ad 20 0)), some (.int x)] rfl (by decide) (by simp [Value.category]) (Nat.le_of_ble_eq_true rfl) rfl ?_
  intro p e s m args below meth c K hnm hX
  have hn6 := hI.1
  have hp := hI.2
  refine j_aload_n K 0 dX6_reportCount_0 rfl rfl ?_
  refine j_iload_n K 1 dX6_reportCount_1 rfl rfl ?_
  refine j_cV1r K dX6_reportCount_2 m_X6_isPier v_X6_isPier k_X6_125 rfl ⟨by decide, rfl⟩ rfl (c_MP0 _ hI h) (Nat.le_of_ble_eq_true rfl) ⟨by decide, by decide⟩ (by decide) (by decide) ?_
  refine j_if_eq K 17 dX6_reportCount_5 (by decide) (fun h_5 => ?_) (fun h_5 => absurd (by decide) h_5)
  refine j_iconst K 0 dX6_reportCount_17 rfl ?_
  refine j_iret K dX6_reportCount_18 ?_
  exact ⟨rfl, rfl⟩
set_option maxRecDepth 20000 in
set_option maxHeartbeats 400000 in
theorem c_M_reportCount {l : Launch} {D : va_G} {ca : Nat → ClassId} {q0 : Nat} {sa : Nat → Nat} {ad : jAd} {z n a : Nat} {V : jV} (x : Int32) (hI : n ≤ 6 ∧ V 20 0 1 = nI n) (ha : a < n) (hx : x = nI a)  : jMet l D ca q0 sa ad yX6_reportCount cX6_reportCount 2 (some .int) 2 0 0 [.ref (ad 20 0), .int x] (jS z n V) (jRet (some (.int (V 30 0 a))) (jS z n (thr V 0))) := by
  refine j_enter RX6 [some (.ref (ad 20 0)), some (.int x)] rfl (by decide) (by simp [Value.category]) (Nat.le_of_ble_eq_true rfl) rfl ?_
  intro p e s m args below meth c K hnm hX
  have hn6 := hI.1
  have hp := hI.2
  refine j_aload_n K 0 dX6_reportCount_0 rfl rfl ?_
  refine j_iload_n K 1 dX6_reportCount_1 rfl rfl ?_
  refine j_cV1r K dX6_reportCount_2 m_X6_isPier v_X6_isPier k_X6_125 rfl ⟨by decide, rfl⟩ rfl (c_MP _ hI ⟨a, ha, hx⟩) (Nat.le_of_ble_eq_true rfl) ⟨by decide, by decide⟩ (by decide) (by decide) ?_
  refine j_if_eq K 17 dX6_reportCount_5 (by decide) (fun h_5 => absurd h_5 (by decide)) (fun h_5 => ?_)
  refine j_aload_n K 0 dX6_reportCount_8 rfl rfl ?_
  refine jGr K 30 0 dX6_reportCount_9 f_X6_28 rfl rfl rfl rfl ?_
  refine j_iload_n K 1 dX6_reportCount_12 rfl rfl ?_
  refine jIald K (a) dX6_reportCount_13 rfl rfl hx (by omega) ?_
  refine j_goto K 18 dX6_reportCount_14 (by decide) ?_
  refine j_iret K dX6_reportCount_18 ?_
  exact ⟨rfl, rfl⟩
set_option maxRecDepth 20000 in
set_option maxHeartbeats 400000 in
theorem c_M_boardDayx1 {l : Launch} {D : va_G} {ca : Nat → ClassId} {q0 : Nat} {sa : Nat → Nat} {ad : jAd} {z n : Nat} {V : jV} (x : Int32) (hI : n ≤ 6 ∧ V 20 0 1 = nI n) (h : ¬ okP n x)  : jMet l D ca q0 sa ad yX6_boardDay cX6_boardDay 2 (some .int) 2 0 0 [.ref (ad 20 0), .int x] (jS z n V) (jRet (some (.int 0)) (jS z n (thr V 1))) := by
  refine j_enter RX6 [some (.ref (ad 20 0)), some (.int x)] rfl (by decide) (by simp [Value.category]) (Nat.le_of_ble_eq_true rfl) rfl ?_
  intro p e s m args below meth c K hnm hX
  have hn6 := hI.1
  have hp := hI.2
  refine j_aload_n K 0 dX6_boardDay_0 rfl rfl ?_
  refine j_iload_n K 1 dX6_boardDay_1 rfl rfl ?_
  refine j_cV1r K dX6_boardDay_2 m_X6_isPier v_X6_isPier k_X6_125 rfl ⟨by decide, rfl⟩ rfl (c_MP0 _ hI h) (Nat.le_of_ble_eq_true rfl) ⟨by decide, by decide⟩ (by decide) (by decide) ?_
  refine j_if_eq K 17 dX6_boardDay_5 (by decide) (fun h_5 => ?_) (fun h_5 => absurd (by decide) h_5)
  refine j_iconst K 0 dX6_boardDay_17 rfl ?_
  refine j_iret K dX6_boardDay_18 ?_
  exact ⟨rfl, rfl⟩
set_option maxRecDepth 20000 in
set_option maxHeartbeats 400000 in
theorem c_M_boardDay {l : Launch} {D : va_G} {ca : Nat → ClassId} {q0 : Nat} {sa : Nat → Nat} {ad : jAd} {z n a : Nat} {V : jV} (x : Int32) (hI : n ≤ 6 ∧ V 20 0 1 = nI n) (ha : a < n) (hx : x = nI a)  : jMet l D ca q0 sa ad yX6_boardDay cX6_boardDay 2 (some .int) 2 0 0 [.ref (ad 20 0), .int x] (jS z n V) (jRet (some (.int (V 42 0 a))) (jS z n (thr V 0))) := by
  refine j_enter RX6 [some (.ref (ad 20 0)), some (.int x)] rfl (by decide) (by simp [Value.category]) (Nat.le_of_ble_eq_true rfl) rfl ?_
  intro p e s m args below meth c K hnm hX
  have hn6 := hI.1
  have hp := hI.2
  refine j_aload_n K 0 dX6_boardDay_0 rfl rfl ?_
  refine j_iload_n K 1 dX6_boardDay_1 rfl rfl ?_
  refine j_cV1r K dX6_boardDay_2 m_X6_isPier v_X6_isPier k_X6_125 rfl ⟨by decide, rfl⟩ rfl (c_MP _ hI ⟨a, ha, hx⟩) (Nat.le_of_ble_eq_true rfl) ⟨by decide, by decide⟩ (by decide) (by decide) ?_
  refine j_if_eq K 17 dX6_boardDay_5 (by decide) (fun h_5 => absurd h_5 (by decide)) (fun h_5 => ?_)
  refine j_aload_n K 0 dX6_boardDay_8 rfl rfl ?_
  refine jGr K 42 0 dX6_boardDay_9 f_X6_53 rfl rfl rfl rfl ?_
  refine j_iload_n K 1 dX6_boardDay_12 rfl rfl ?_
  refine jIald K (a) dX6_boardDay_13 rfl rfl hx (by omega) ?_
  refine j_goto K 18 dX6_boardDay_14 (by decide) ?_
  refine j_iret K dX6_boardDay_18 ?_
  exact ⟨rfl, rfl⟩
set_option maxRecDepth 20000 in
set_option maxHeartbeats 400000 in
theorem c_M_lineCountx1 {l : Launch} {D : va_G} {ca : Nat → ClassId} {q0 : Nat} {sa : Nat → Nat} {ad : jAd} {z n : Nat} {V : jV} (x : Int32) (hI : n ≤ 6 ∧ V 20 0 1 = nI n) (h : ¬ okP n x)  : jMet l D ca q0 sa ad yX6_lineCount cX6_lineCount 2 (some .int) 2 0 0 [.ref (ad 20 0), .int x] (jS z n V) (jRet (some (.int 0)) (jS z n (thr V 1))) := by
  refine j_enter RX6 [some (.ref (ad 20 0)), some (.int x)] rfl (by decide) (by simp [Value.category]) (Nat.le_of_ble_eq_true rfl) rfl ?_
  intro p e s m args below meth c K hnm hX
  have hn6 := hI.1
  have hp := hI.2
  refine j_aload_n K 0 dX6_lineCount_0 rfl rfl ?_
  refine j_iload_n K 1 dX6_lineCount_1 rfl rfl ?_
  refine j_cV1r K dX6_lineCount_2 m_X6_isPier v_X6_isPier k_X6_125 rfl ⟨by decide, rfl⟩ rfl (c_MP0 _ hI h) (Nat.le_of_ble_eq_true rfl) ⟨by decide, by decide⟩ (by decide) (by decide) ?_
  refine j_if_eq K 17 dX6_lineCount_5 (by decide) (fun h_5 => ?_) (fun h_5 => absurd (by decide) h_5)
  refine j_iconst K 0 dX6_lineCount_17 rfl ?_
  refine j_iret K dX6_lineCount_18 ?_
  exact ⟨rfl, rfl⟩
set_option maxRecDepth 20000 in
set_option maxHeartbeats 400000 in
theorem c_M_lineCount {l : Launch} {D : va_G} {ca : Nat → ClassId} {q0 : Nat} {sa : Nat → Nat} {ad : jAd} {z n a : Nat} {V : jV} (x : Int32) (hI : n ≤ 6 ∧ V 20 0 1 = nI n) (ha : a < n) (hx : x = nI a)  : jMet l D ca q0 sa ad yX6_lineCount cX6_lineCount 2 (some .int) 2 0 0 [.ref (ad 20 0), .int x] (jS z n V) (jRet (some (.int (V 43 0 a))) (jS z n (thr V 0))) := by
  refine j_enter RX6 [some (.ref (ad 20 0)), some (.int x)] rfl (by decide) (by simp [Value.category]) (Nat.le_of_ble_eq_true rfl) rfl ?_
  intro p e s m args below meth c K hnm hX
  have hn6 := hI.1
  have hp := hI.2
  refine j_aload_n K 0 dX6_lineCount_0 rfl rfl ?_
  refine j_iload_n K 1 dX6_lineCount_1 rfl rfl ?_
  refine j_cV1r K dX6_lineCount_2 m_X6_isPier v_X6_isPier k_X6_125 rfl ⟨by decide, rfl⟩ rfl (c_MP _ hI ⟨a, ha, hx⟩) (Nat.le_of_ble_eq_true rfl) ⟨by decide, by decide⟩ (by decide) (by decide) ?_
  refine j_if_eq K 17 dX6_lineCount_5 (by decide) (fun h_5 => absurd h_5 (by decide)) (fun h_5 => ?_)
  refine j_aload_n K 0 dX6_lineCount_8 rfl rfl ?_
  refine jGr K 43 0 dX6_lineCount_9 f_X6_56 rfl rfl rfl rfl ?_
  refine j_iload_n K 1 dX6_lineCount_12 rfl rfl ?_
  refine jIald K (a) dX6_lineCount_13 rfl rfl hx (by omega) ?_
  refine j_goto K 18 dX6_lineCount_14 (by decide) ?_
  refine j_iret K dX6_lineCount_18 ?_
  exact ⟨rfl, rfl⟩
set_option maxRecDepth 20000 in
set_option maxHeartbeats 400000 in
theorem c_M_dripsOfx1 {l : Launch} {D : va_G} {ca : Nat → ClassId} {q0 : Nat} {sa : Nat → Nat} {ad : jAd} {z n : Nat} {V : jV} (x : Int32) (hI : n ≤ 6 ∧ V 20 0 1 = nI n) (h : ¬ okP n x)  : jMet l D ca q0 sa ad yX6_dripsOf cX6_dripsOf 2 (some .int) 2 0 0 [.ref (ad 20 0), .int x] (jS z n V) (jRet (some (.int 0)) (jS z n (thr V 1))) := by
  refine j_enter RX6 [some (.ref (ad 20 0)), some (.int x)] rfl (by decide) (by simp [Value.category]) (Nat.le_of_ble_eq_true rfl) rfl ?_
  intro p e s m args below meth c K hnm hX
  have hn6 := hI.1
  have hp := hI.2
  refine j_aload_n K 0 dX6_dripsOf_0 rfl rfl ?_
  refine j_iload_n K 1 dX6_dripsOf_1 rfl rfl ?_
  refine j_cV1r K dX6_dripsOf_2 m_X6_isPier v_X6_isPier k_X6_125 rfl ⟨by decide, rfl⟩ rfl (c_MP0 _ hI h) (Nat.le_of_ble_eq_true rfl) ⟨by decide, by decide⟩ (by decide) (by decide) ?_
  refine j_if_eq K 17 dX6_dripsOf_5 (by decide) (fun h_5 => ?_) (fun h_5 => absurd (by decide) h_5)
  refine j_iconst K 0 dX6_dripsOf_17 rfl ?_
  refine j_iret K dX6_dripsOf_18 ?_
  exact ⟨rfl, rfl⟩
set_option maxRecDepth 20000 in
set_option maxHeartbeats 400000 in
theorem c_M_dripsOf {l : Launch} {D : va_G} {ca : Nat → ClassId} {q0 : Nat} {sa : Nat → Nat} {ad : jAd} {z n a : Nat} {V : jV} (x : Int32) (hI : n ≤ 6 ∧ V 20 0 1 = nI n) (ha : a < n) (hx : x = nI a)  : jMet l D ca q0 sa ad yX6_dripsOf cX6_dripsOf 2 (some .int) 2 0 0 [.ref (ad 20 0), .int x] (jS z n V) (jRet (some (.int (V 44 0 a))) (jS z n (thr V 0))) := by
  refine j_enter RX6 [some (.ref (ad 20 0)), some (.int x)] rfl (by decide) (by simp [Value.category]) (Nat.le_of_ble_eq_true rfl) rfl ?_
  intro p e s m args below meth c K hnm hX
  have hn6 := hI.1
  have hp := hI.2
  refine j_aload_n K 0 dX6_dripsOf_0 rfl rfl ?_
  refine j_iload_n K 1 dX6_dripsOf_1 rfl rfl ?_
  refine j_cV1r K dX6_dripsOf_2 m_X6_isPier v_X6_isPier k_X6_125 rfl ⟨by decide, rfl⟩ rfl (c_MP _ hI ⟨a, ha, hx⟩) (Nat.le_of_ble_eq_true rfl) ⟨by decide, by decide⟩ (by decide) (by decide) ?_
  refine j_if_eq K 17 dX6_dripsOf_5 (by decide) (fun h_5 => absurd h_5 (by decide)) (fun h_5 => ?_)
  refine j_aload_n K 0 dX6_dripsOf_8 rfl rfl ?_
  refine jGr K 44 0 dX6_dripsOf_9 f_X6_59 rfl rfl rfl rfl ?_
  refine j_iload_n K 1 dX6_dripsOf_12 rfl rfl ?_
  refine jIald K (a) dX6_dripsOf_13 rfl rfl hx (by omega) ?_
  refine j_goto K 18 dX6_dripsOf_14 (by decide) ?_
  refine j_iret K dX6_dripsOf_18 ?_
  exact ⟨rfl, rfl⟩
set_option maxRecDepth 20000 in
set_option maxHeartbeats 400000 in
theorem c_M_correctionOfx1 {l : Launch} {D : va_G} {ca : Nat → ClassId} {q0 : Nat} {sa : Nat → Nat} {ad : jAd} {z n : Nat} {V : jV} (x : Int32) (hI : n ≤ 6 ∧ V 20 0 1 = nI n) (h : ¬ okP n x)  : jMet l D ca q0 sa ad yX6_correctionOf cX6_correctionOf 2 (some .int) 2 0 0 [.ref (ad 20 0), .int x] (jS z n V) (jRet (some (.int 0)) (jS z n (thr V 1))) := by
  refine j_enter RX6 [some (.ref (ad 20 0)), some (.int x)] rfl (by decide) (by simp [Value.category]) (Nat.le_of_ble_eq_true rfl) rfl ?_
  intro p e s m args below meth c K hnm hX
  have hn6 := hI.1
  have hp := hI.2
  refine j_aload_n K 0 dX6_correctionOf_0 rfl rfl ?_
  refine j_iload_n K 1 dX6_correctionOf_1 rfl rfl ?_
  refine j_cV1r K dX6_correctionOf_2 m_X6_isPier v_X6_isPier k_X6_125 rfl ⟨by decide, rfl⟩ rfl (c_MP0 _ hI h) (Nat.le_of_ble_eq_true rfl) ⟨by decide, by decide⟩ (by decide) (by decide) ?_
  refine j_if_eq K 16 dX6_correctionOf_5 (by decide) (fun h_5 => ?_) (fun h_5 => absurd (by decide) h_5)
  refine j_iconst K 0 dX6_correctionOf_16 rfl ?_
  refine j_iret K dX6_correctionOf_17 ?_
  exact ⟨rfl, rfl⟩
set_option maxRecDepth 20000 in
set_option maxHeartbeats 400000 in
theorem c_M_correctionOf {l : Launch} {D : va_G} {ca : Nat → ClassId} {q0 : Nat} {sa : Nat → Nat} {ad : jAd} {z n a cnt : Nat} {V : jV} (x : Int32) (hI : n ≤ 6 ∧ V 20 0 1 = nI n) (ha : a < n) (hx : x = nI a) (hR : YR V a cnt)  : jMet l D ca q0 sa ad yX6_correctionOf cX6_correctionOf 2 (some .int) 2 0 0 [.ref (ad 20 0), .int x] (jS z n V) (jRet (some (.int (corr (ymin V a) (ytru V a) cnt))) (jS z n (thr V 0))) := by
  refine j_enter RX6 [some (.ref (ad 20 0)), some (.int x)] rfl (by decide) (by simp [Value.category]) (Nat.le_of_ble_eq_true rfl) rfl ?_
  intro p e s m args below meth c K hnm hX
  have hn6 := hI.1
  have hp := hI.2
  refine j_aload_n K 0 dX6_correctionOf_0 rfl rfl ?_
  refine j_iload_n K 1 dX6_correctionOf_1 rfl rfl ?_
  refine j_cV1r K dX6_correctionOf_2 m_X6_isPier v_X6_isPier k_X6_125 rfl ⟨by decide, rfl⟩ rfl (c_MP _ hI ⟨a, ha, hx⟩) (Nat.le_of_ble_eq_true rfl) ⟨by decide, by decide⟩ (by decide) (by decide) ?_
  refine j_if_eq K 16 dX6_correctionOf_5 (by decide) (fun h_5 => absurd h_5 (by decide)) (fun h_5 => ?_)
  refine j_aload_n K 0 dX6_correctionOf_8 rfl rfl ?_
  refine j_iload_n K 1 dX6_correctionOf_9 rfl rfl ?_
  refine j_cV1r K dX6_correctionOf_10 m_X6_correction v_X6_correction k_X6_131 rfl ⟨by decide, rfl⟩ rfl (c_Mcorr (V := thr V 0) _ hn6 ha hx hR) (Nat.le_of_ble_eq_true rfl) ⟨by decide, by decide⟩ (by decide) (by decide) ?_
  refine j_goto K 17 dX6_correctionOf_13 (by decide) ?_
  refine j_iret K dX6_correctionOf_17 ?_
  exact ⟨rfl, rfl⟩
set_option maxRecDepth 20000 in
set_option maxHeartbeats 400000 in
theorem c_M_unreadableLinesx1 {l : Launch} {D : va_G} {ca : Nat → ClassId} {q0 : Nat} {sa : Nat → Nat} {ad : jAd} {z n : Nat} {V : jV} (x : Int32) (hI : n ≤ 6 ∧ V 20 0 1 = nI n) (h : ¬ okP n x)  : jMet l D ca q0 sa ad yX6_unreadableLines cX6_unreadableLines 2 (some .int) 2 0 0 [.ref (ad 20 0), .int x] (jS z n V) (jRet (some (.int 0)) (jS z n (thr V 1))) := by
  refine j_enter RX6 [some (.ref (ad 20 0)), some (.int x)] rfl (by decide) (by simp [Value.category]) (Nat.le_of_ble_eq_true rfl) rfl ?_
  intro p e s m args below meth c K hnm hX
  have hn6 := hI.1
  have hp := hI.2
  refine j_aload_n K 0 dX6_unreadableLines_0 rfl rfl ?_
  refine j_iload_n K 1 dX6_unreadableLines_1 rfl rfl ?_
  refine j_cV1r K dX6_unreadableLines_2 m_X6_isPier v_X6_isPier k_X6_125 rfl ⟨by decide, rfl⟩ rfl (c_MP0 _ hI h) (Nat.le_of_ble_eq_true rfl) ⟨by decide, by decide⟩ (by decide) (by decide) ?_
  refine j_if_eq K 16 dX6_unreadableLines_5 (by decide) (fun h_5 => ?_) (fun h_5 => absurd (by decide) h_5)
  refine j_iconst K 0 dX6_unreadableLines_16 rfl ?_
  refine j_iret K dX6_unreadableLines_17 ?_
  exact ⟨rfl, rfl⟩
set_option maxRecDepth 20000 in
set_option maxHeartbeats 400000 in
theorem c_M_unreadableLines {l : Launch} {D : va_G} {ca : Nat → ClassId} {q0 : Nat} {sa : Nat → Nat} {ad : jAd} {z n a c4 : Nat} {V : jV} (x : Int32) (hI : n ≤ 6 ∧ V 20 0 1 = nI n) (ha : a < n) (hx : x = nI a) (hl4 : V 43 0 a = nI c4) (hc4 : c4 ≤ 4)  : jMet l D ca q0 sa ad yX6_unreadableLines cX6_unreadableLines 2 (some .int) 2 0 0 [.ref (ad 20 0), .int x] (jS z n V) (jRet (some (.int (umY (thr V 0) a c4))) (jS z n (thr V 0))) := by
  refine j_enter RX6 [some (.ref (ad 20 0)), some (.int x)] rfl (by decide) (by simp [Value.category]) (Nat.le_of_ble_eq_true rfl) rfl ?_
  intro p e s m args below meth c K hnm hX
  have hn6 := hI.1
  have hp := hI.2
  refine j_aload_n K 0 dX6_unreadableLines_0 rfl rfl ?_
  refine j_iload_n K 1 dX6_unreadableLines_1 rfl rfl ?_
  refine j_cV1r K dX6_unreadableLines_2 m_X6_isPier v_X6_isPier k_X6_125 rfl ⟨by decide, rfl⟩ rfl (c_MP _ hI ⟨a, ha, hx⟩) (Nat.le_of_ble_eq_true rfl) ⟨by decide, by decide⟩ (by decide) (by decide) ?_
  refine j_if_eq K 16 dX6_unreadableLines_5 (by decide) (fun h_5 => absurd h_5 (by decide)) (fun h_5 => ?_)
  refine j_aload_n K 0 dX6_unreadableLines_8 rfl rfl ?_
  refine j_iload_n K 1 dX6_unreadableLines_9 rfl rfl ?_
  refine j_cV1r K dX6_unreadableLines_10 m_X6_unreadable v_X6_unreadable k_X6_217 rfl ⟨by decide, rfl⟩ rfl (c_Munr (V := thr V 0) _ hn6 ha hx hl4 hc4) (Nat.le_of_ble_eq_true rfl) ⟨by decide, by decide⟩ (by decide) (by decide) ?_
  refine j_goto K 17 dX6_unreadableLines_13 (by decide) ?_
  refine j_iret K dX6_unreadableLines_17 ?_
  exact ⟨rfl, rfl⟩
