set_option maxRecDepth 20000 in
set_option maxHeartbeats 400000 in
theorem c_reporterAt {l : Launch} {D : va_G} {ca : Nat → ClassId} {q0 : Nat} {sa : Nat → Nat} {ad : jAd} {z n : Nat} {V : jV} {a j : Nat} (x y : Int32) (hI : XI n V) (ha : a < n) (hx : x = nI a) (hy : y = nI j) (hj : j < (tn (V 11 a 3))) : jMet l D ca q0 sa ad yX5_reporterAt cX5_reporterAt 4 (some .int) 2 0 0 [.ref (ad 0 0), .int x, .int y] (jS z n V) (jRet (some (.int (V 12 a j))) (jS z n V)) := by
  refine j_enter RX5 [some (.ref (ad 0 0)), some (.int x), some (.int y), none] rfl (by decide) (by simp [Value.category]) (Nat.le_of_ble_eq_true rfl) rfl ?_
  intro p e s m args below meth c K hnm hX
  have hn6 := hI.1
  have hl : decide (a < n) = true := decide_eq_true ha
  have ht : LV n 6 a = true := lv_pier ha
  have hR := hI.2.2.1 a ha
  have hR6 := hR.2.1
  refine j_aload_n K 0 dX5_reporterAt_0 rfl rfl ?_
  refine j_iload_n K 1 dX5_reporterAt_1 rfl rfl ?_
  refine j_cV1r K dX5_reporterAt_2 m_X5_pierNumbered v_X5_pierNumbered k_X5_95 rfl ⟨by decide, rfl⟩ rfl (c_pN _ hI ha hx) (Nat.le_of_ble_eq_true rfl) ⟨by decide, by decide⟩ (by decide) (by decide) ?_
  refine jGr K 11 a dX5_reporterAt_5 f_X5_69 rfl hl rfl rfl ?_
  refine j_astore_n K 3 dX5_reporterAt_8 rfl (by decide) ?_
  refine j_iload_n K 2 dX5_reporterAt_9 rfl rfl ?_
  refine j_if_lt K 21 dX5_reporterAt_10 (by decide) (fun h_10 => ?_) (fun h_10 => ?_)
  · exact absurd h_10 (by rw [hy]; exact nI_pos (by omega))
  · refine j_iload_n K 2 dX5_reporterAt_13 rfl rfl ?_
    refine j_aload_n K 3 dX5_reporterAt_14 rfl rfl ?_
    refine jGi K dX5_reporterAt_15 f_X5_147 rfl hl rfl ?_
    refine j_icmp_lt K 31 dX5_reporterAt_18 (by decide) (fun h_18 => ?_) (fun h_18 => ?_)
    · refine j_aload_n K 3 dX5_reporterAt_31 rfl rfl ?_
      refine jGr K 12 a dX5_reporterAt_32 f_X5_153 rfl hl rfl rfl ?_
      refine j_iload_n K 2 dX5_reporterAt_35 rfl rfl ?_
      refine jIald K (j) dX5_reporterAt_36 rfl hl hy (by omega) ?_
      refine j_iret K dX5_reporterAt_37 ?_
      exact ⟨rfl, rfl⟩
    · exact absurd ((nlt (by omega) (by omega) hy hR.1).mpr hj) h_18
set_option maxRecDepth 20000 in
set_option maxHeartbeats 400000 in
theorem c_reporterAtx1 {l : Launch} {D : va_G} {ca : Nat → ClassId} {q0 : Nat} {sa : Nat → Nat} {ad : jAd} {z n : Nat} {V : jV} (x y : Int32) (hI : XI n V) (h : ¬ okP n x) : jMet l D ca q0 sa ad yX5_reporterAt cX5_reporterAt 4 (some .int) 2 1 6 [.ref (ad 0 0), .int x, .int y] (jS z n V) (jExc "java/lang/IndexOutOfBoundsException" (jS z n V)) := by
  refine j_enter RX5 [some (.ref (ad 0 0)), some (.int x), some (.int y), none] rfl (by decide) (by simp [Value.category]) (Nat.le_of_ble_eq_true rfl) rfl ?_
  intro p e s m args below meth c K hnm hX
  refine j_aload_n K 0 dX5_reporterAt_0 rfl rfl ?_
  refine j_iload_n K 1 dX5_reporterAt_1 rfl rfl ?_
  exact j_cV1x K dX5_reporterAt_2 m_X5_pierNumbered v_X5_pierNumbered k_X5_95 rfl ⟨by decide, rfl⟩ rfl (c_pNx _ hI h) (Nat.le_of_ble_eq_true rfl) ⟨by decide, by decide⟩ (by decide) (by decide) hX (fun _ => ⟨rfl, rfl⟩)
set_option maxRecDepth 20000 in
set_option maxHeartbeats 400000 in
theorem c_reporterAtx2 {l : Launch} {D : va_G} {ca : Nat → ClassId} {q0 : Nat} {sa : Nat → Nat} {ad : jAd} {z n : Nat} {V : jV} {a : Nat} (x y : Int32) (hI : XI n V) (ha : a < n) (hx : x = nI a) (h : ¬ okP (tn (V 11 a 3)) y) : jMet l D ca q0 sa ad yX5_reporterAt cX5_reporterAt 4 (some .int) 2 1 6 [.ref (ad 0 0), .int x, .int y] (jS z n V) (jExc ns_C (jS z n V)) := by
  refine j_enter RX5 [some (.ref (ad 0 0)), some (.int x), some (.int y), none] rfl (by decide) (by simp [Value.category]) (Nat.le_of_ble_eq_true rfl) rfl ?_
  intro p e s m args below meth c K hnm hX
  have hn6 := hI.1
  have hl : decide (a < n) = true := decide_eq_true ha
  have ht : LV n 6 a = true := lv_pier ha
  have hR := hI.2.2.1 a ha
  have hR6 := hR.2.1
  refine j_aload_n K 0 dX5_reporterAt_0 rfl rfl ?_
  refine j_iload_n K 1 dX5_reporterAt_1 rfl rfl ?_
  refine j_cV1r K dX5_reporterAt_2 m_X5_pierNumbered v_X5_pierNumbered k_X5_95 rfl ⟨by decide, rfl⟩ rfl (c_pN _ hI ha hx) (Nat.le_of_ble_eq_true rfl) ⟨by decide, by decide⟩ (by decide) (by decide) ?_
  refine jGr K 11 a dX5_reporterAt_5 f_X5_69 rfl hl rfl rfl ?_
  refine j_astore_n K 3 dX5_reporterAt_8 rfl (by decide) ?_
  refine j_iload_n K 2 dX5_reporterAt_9 rfl rfl ?_
  refine j_if_lt K 21 dX5_reporterAt_10 (by decide) (fun h_10 => ?_) (fun h_10 => ?_)
  · exact j_throwN (text := "no such place") K hX thr_NSE (by decide +kernel) dX5_reporterAt_21 dX5_reporterAt_24 dX5_reporterAt_25 dX5_reporterAt_27 dX5_reporterAt_30 (by decide) (by decide) (Nat.le_of_ble_eq_true rfl) (fun _ => ⟨rfl, rfl⟩)
  · refine j_iload_n K 2 dX5_reporterAt_13 rfl rfl ?_
    refine j_aload_n K 3 dX5_reporterAt_14 rfl rfl ?_
    refine jGi K dX5_reporterAt_15 f_X5_147 rfl hl rfl ?_
    refine j_icmp_lt K 31 dX5_reporterAt_18 (by decide) (fun h_18 => ?_) (fun h_18 => ?_)
    · exact absurd (okP_of (by omega) hR.1 h_10 h_18) h
    · exact j_throwN (text := "no such place") K hX thr_NSE (by decide +kernel) dX5_reporterAt_21 dX5_reporterAt_24 dX5_reporterAt_25 dX5_reporterAt_27 dX5_reporterAt_30 (by decide) (by decide) (Nat.le_of_ble_eq_true rfl) (fun _ => ⟨rfl, rfl⟩)
set_option maxRecDepth 20000 in
set_option maxHeartbeats 400000 in
theorem c_reportedMinutes {l : Launch} {D : va_G} {ca : Nat → ClassId} {q0 : Nat} {sa : Nat → Nat} {ad : jAd} {z n : Nat} {V : jV} {a g : Nat} (y x : Int32) (hI : XI n V) (ha : a < n) (hx : x = nI a) (hf : okP 6 y) (hg : fidx (fun j => decide (V 12 a j = y)) (tn (V 11 a 3)) = g) (hgc : g < (tn (V 11 a 3))) : jMet l D ca q0 sa ad yX5_reportedMinutes cX5_reportedMinutes 4 (some .int) 3 0 0 [.ref (ad 0 0), .int y, .int x] (jS z n V) (jRet (some (.int (V 13 a g))) (jS z n V)) := by
  refine j_enter RX5 [some (.ref (ad 0 0)), some (.int y), some (.int x), none] rfl (by decide) (by simp [Value.category]) (Nat.le_of_ble_eq_true rfl) rfl ?_
  intro p e s m args below meth c K hnm hX
  have hn6 := hI.1
  have hl : decide (a < n) = true := decide_eq_true ha
  have ht : LV n 6 a = true := lv_pier ha
  have hR := hI.2.2.1 a ha
  have hR6 := hR.2.1
  refine j_aload_n K 0 dX5_reportedMinutes_0 rfl rfl ?_
  refine j_iload_n K 1 dX5_reportedMinutes_1 rfl rfl ?_
  refine j_iload_n K 2 dX5_reportedMinutes_2 rfl rfl ?_
  refine j_cV2r K dX5_reportedMinutes_3 m_X5_reportsFor v_X5_reportsFor k_X5_126 rfl ⟨by decide, rfl⟩ rfl (c_rF _ _ hI ha hx hf) (Nat.le_of_ble_eq_true rfl) ⟨by decide, by decide⟩ (by decide) (by decide) ?_
  refine j_astore_n K 3 dX5_reportedMinutes_6 rfl (by decide) ?_
  refine j_aload_n K 3 dX5_reportedMinutes_7 rfl rfl ?_
  refine jGr K 13 a dX5_reportedMinutes_8 f_X5_156 rfl hl rfl rfl ?_
  refine j_aload_n K 3 dX5_reportedMinutes_11 rfl rfl ?_
  refine j_iload_n K 1 dX5_reportedMinutes_12 rfl rfl ?_
  refine j_cS2r K dX5_reportedMinutes_13 m_X5_placeOfReport s_X5_placeOfReport k_X5_157 (c_pR _ hl hR hg hgc) (Nat.le_of_ble_eq_true rfl) ⟨by decide, by decide⟩ (by decide) (by decide) ?_
  refine jIald K (g) dX5_reportedMinutes_16 rfl hl rfl (by omega) ?_
  refine j_iret K dX5_reportedMinutes_17 ?_
  exact ⟨rfl, rfl⟩
set_option maxRecDepth 20000 in
set_option maxHeartbeats 400000 in
theorem c_reportedMinutesx1 {l : Launch} {D : va_G} {ca : Nat → ClassId} {q0 : Nat} {sa : Nat → Nat} {ad : jAd} {z n : Nat} {V : jV} (y x : Int32) (hI : XI n V) (h : ¬ okP 6 y) : jMet l D ca q0 sa ad yX5_reportedMinutes cX5_reportedMinutes 4 (some .int) 3 1 6 [.ref (ad 0 0), .int y, .int x] (jS z n V) (jExc "java/lang/IndexOutOfBoundsException" (jS z n V)) := by
  refine j_enter RX5 [some (.ref (ad 0 0)), some (.int y), some (.int x), none] rfl (by decide) (by simp [Value.category]) (Nat.le_of_ble_eq_true rfl) rfl ?_
  intro p e s m args below meth c K hnm hX
  refine j_aload_n K 0 dX5_reportedMinutes_0 rfl rfl ?_
  refine j_iload_n K 1 dX5_reportedMinutes_1 rfl rfl ?_
  refine j_iload_n K 2 dX5_reportedMinutes_2 rfl rfl ?_
  exact j_cV2x K dX5_reportedMinutes_3 m_X5_reportsFor v_X5_reportsFor k_X5_126 rfl ⟨by decide, rfl⟩ rfl (c_rFx1 _ _ hI h) (Nat.le_of_ble_eq_true rfl) ⟨by decide, by decide⟩ (by decide) (by decide) hX (fun _ => ⟨rfl, rfl⟩)
set_option maxRecDepth 20000 in
set_option maxHeartbeats 400000 in
theorem c_reportedMinutesx2 {l : Launch} {D : va_G} {ca : Nat → ClassId} {q0 : Nat} {sa : Nat → Nat} {ad : jAd} {z n : Nat} {V : jV} (y x : Int32) (hI : XI n V) (hf : okP 6 y) (h : ¬ okP n x) : jMet l D ca q0 sa ad yX5_reportedMinutes cX5_reportedMinutes 4 (some .int) 3 1 6 [.ref (ad 0 0), .int y, .int x] (jS z n V) (jExc "java/lang/IndexOutOfBoundsException" (jS z n V)) := by
  refine j_enter RX5 [some (.ref (ad 0 0)), some (.int y), some (.int x), none] rfl (by decide) (by simp [Value.category]) (Nat.le_of_ble_eq_true rfl) rfl ?_
  intro p e s m args below meth c K hnm hX
  refine j_aload_n K 0 dX5_reportedMinutes_0 rfl rfl ?_
  refine j_iload_n K 1 dX5_reportedMinutes_1 rfl rfl ?_
  refine j_iload_n K 2 dX5_reportedMinutes_2 rfl rfl ?_
  exact j_cV2x K dX5_reportedMinutes_3 m_X5_reportsFor v_X5_reportsFor k_X5_126 rfl ⟨by decide, rfl⟩ rfl (c_rFx2 _ _ hI hf h) (Nat.le_of_ble_eq_true rfl) ⟨by decide, by decide⟩ (by decide) (by decide) hX (fun _ => ⟨rfl, rfl⟩)
set_option maxRecDepth 20000 in
set_option maxHeartbeats 400000 in
theorem c_reportedMinutesx3 {l : Launch} {D : va_G} {ca : Nat → ClassId} {q0 : Nat} {sa : Nat → Nat} {ad : jAd} {z n : Nat} {V : jV} {a : Nat} (y x : Int32) (hI : XI n V) (ha : a < n) (hx : x = nI a) (hf : okP 6 y) (hg : ¬ fidx (fun j => decide (V 12 a j = y)) (tn (V 11 a 3)) < (tn (V 11 a 3))) : jMet l D ca q0 sa ad yX5_reportedMinutes cX5_reportedMinutes 4 (some .int) 3 1 6 [.ref (ad 0 0), .int y, .int x] (jS z n V) (jExc ns_C (jS z n V)) := by
  refine j_enter RX5 [some (.ref (ad 0 0)), some (.int y), some (.int x), none] rfl (by decide) (by simp [Value.category]) (Nat.le_of_ble_eq_true rfl) rfl ?_
  intro p e s m args below meth c K hnm hX
  have hn6 := hI.1
  have hl : decide (a < n) = true := decide_eq_true ha
  have ht : LV n 6 a = true := lv_pier ha
  have hR := hI.2.2.1 a ha
  have hR6 := hR.2.1
  refine j_aload_n K 0 dX5_reportedMinutes_0 rfl rfl ?_
  refine j_iload_n K 1 dX5_reportedMinutes_1 rfl rfl ?_
  refine j_iload_n K 2 dX5_reportedMinutes_2 rfl rfl ?_
  refine j_cV2r K dX5_reportedMinutes_3 m_X5_reportsFor v_X5_reportsFor k_X5_126 rfl ⟨by decide, rfl⟩ rfl (c_rF _ _ hI ha hx hf) (Nat.le_of_ble_eq_true rfl) ⟨by decide, by decide⟩ (by decide) (by decide) ?_
  refine j_astore_n K 3 dX5_reportedMinutes_6 rfl (by decide) ?_
  refine j_aload_n K 3 dX5_reportedMinutes_7 rfl rfl ?_
  refine jGr K 13 a dX5_reportedMinutes_8 f_X5_156 rfl hl rfl rfl ?_
  refine j_aload_n K 3 dX5_reportedMinutes_11 rfl rfl ?_
  refine j_iload_n K 1 dX5_reportedMinutes_12 rfl rfl ?_
  exact j_cS2x K dX5_reportedMinutes_13 m_X5_placeOfReport s_X5_placeOfReport k_X5_157 (c_pRx _ hl hR hg) (Nat.le_of_ble_eq_true rfl) ⟨by decide, by decide⟩ (by decide) (by decide) hX (fun _ => ⟨rfl, rfl⟩)
set_option maxRecDepth 20000 in
set_option maxHeartbeats 400000 in
theorem c_reportAge {l : Launch} {D : va_G} {ca : Nat → ClassId} {q0 : Nat} {sa : Nat → Nat} {ad : jAd} {z n : Nat} {V : jV} {a g : Nat} (y x : Int32) (hI : XI n V) (ha : a < n) (hx : x = nI a) (hf : okP 6 y) (hg : fidx (fun j => decide (V 12 a j = y)) (tn (V 11 a 3)) = g) (hgc : g < (tn (V 11 a 3))) : jMet l D ca q0 sa ad yX5_reportAge cX5_reportAge 4 (some .int) 3 0 0 [.ref (ad 0 0), .int y, .int x] (jS z n V) (jRet (some (.int (V 14 a g))) (jS z n V)) := by
  refine j_enter RX5 [some (.ref (ad 0 0)), some (.int y), some (.int x), none] rfl (by decide) (by simp [Value.category]) (Nat.le_of_ble_eq_true rfl) rfl ?_
  intro p e s m args below meth c K hnm hX
  have hn6 := hI.1
  have hl : decide (a < n) = true := decide_eq_true ha
  have ht : LV n 6 a = true := lv_pier ha
  have hR := hI.2.2.1 a ha
  have hR6 := hR.2.1
  refine j_aload_n K 0 dX5_reportAge_0 rfl rfl ?_
  refine j_iload_n K 1 dX5_reportAge_1 rfl rfl ?_
  refine j_iload_n K 2 dX5_reportAge_2 rfl rfl ?_
  refine j_cV2r K dX5_reportAge_3 m_X5_reportsFor v_X5_reportsFor k_X5_126 rfl ⟨by decide, rfl⟩ rfl (c_rF _ _ hI ha hx hf) (Nat.le_of_ble_eq_true rfl) ⟨by decide, by decide⟩ (by decide) (by decide) ?_
  refine j_astore_n K 3 dX5_reportAge_6 rfl (by decide) ?_
  refine j_aload_n K 3 dX5_reportAge_7 rfl rfl ?_
  refine jGr K 14 a dX5_reportAge_8 f_X5_161 rfl hl rfl rfl ?_
  refine j_aload_n K 3 dX5_reportAge_11 rfl rfl ?_
  refine j_iload_n K 1 dX5_reportAge_12 rfl rfl ?_
  refine j_cS2r K dX5_reportAge_13 m_X5_placeOfReport s_X5_placeOfReport k_X5_157 (c_pR _ hl hR hg hgc) (Nat.le_of_ble_eq_true rfl) ⟨by decide, by decide⟩ (by decide) (by decide) ?_
  refine jIald K (g) dX5_reportAge_16 rfl hl rfl (by omega) ?_
  refine j_iret K dX5_reportAge_17 ?_
  exact ⟨rfl, rfl⟩
set_option maxRecDepth 20000 in
set_option maxHeartbeats 400000 in
theorem c_reportAgex1 {l : Launch} {D : va_G} {ca : Nat → ClassId} {q0 : Nat} {sa : Nat → Nat} {ad : jAd} {z n : Nat} {V : jV} (y x : Int32) (hI : XI n V) (h : ¬ okP 6 y) : jMet l D ca q0 sa ad yX5_reportAge cX5_reportAge 4 (some .int) 3 1 6 [.ref (ad 0 0), .int y, .int x] (jS z n V) (jExc "java/lang/IndexOutOfBoundsException" (jS z n V)) := by
  refine j_enter RX5 [some (.ref (ad 0 0)), some (.int y), some (.int x), none] rfl (by decide) (by simp [Value.category]) (Nat.le_of_ble_eq_true rfl) rfl ?_
  intro p e s m args below meth c K hnm hX
  refine j_aload_n K 0 dX5_reportAge_0 rfl rfl ?_
  refine j_iload_n K 1 dX5_reportAge_1 rfl rfl ?_
  refine j_iload_n K 2 dX5_reportAge_2 rfl rfl ?_
  exact j_cV2x K dX5_reportAge_3 m_X5_reportsFor v_X5_reportsFor k_X5_126 rfl ⟨by decide, rfl⟩ rfl (c_rFx1 _ _ hI h) (Nat.le_of_ble_eq_true rfl) ⟨by decide, by decide⟩ (by decide) (by decide) hX (fun _ => ⟨rfl, rfl⟩)
set_option maxRecDepth 20000 in
set_option maxHeartbeats 400000 in
theorem c_reportAgex2 {l : Launch} {D : va_G} {ca : Nat → ClassId} {q0 : Nat} {sa : Nat → Nat} {ad : jAd} {z n : Nat} {V : jV} (y x : Int32) (hI : XI n V) (hf : okP 6 y) (h : ¬ okP n x) : jMet l D ca q0 sa ad yX5_reportAge cX5_reportAge 4 (some .int) 3 1 6 [.ref (ad 0 0), .int y, .int x] (jS z n V) (jExc "java/lang/IndexOutOfBoundsException" (jS z n V)) := by
  refine j_enter RX5 [some (.ref (ad 0 0)), some (.int y), some (.int x), none] rfl (by decide) (by simp [Value.category]) (Nat.le_of_ble_eq_true rfl) rfl ?_
  intro p e s m args below meth c K hnm hX
  refine j_aload_n K 0 dX5_reportAge_0 rfl rfl ?_
  refine j_iload_n K 1 dX5_reportAge_1 rfl rfl ?_
  refine j_iload_n K 2 dX5_reportAge_2 rfl rfl ?_
  exact j_cV2x K dX5_reportAge_3 m_X5_reportsFor v_X5_reportsFor k_X5_126 rfl ⟨by decide, rfl⟩ rfl (c_rFx2 _ _ hI hf h) (Nat.le_of_ble_eq_true rfl) ⟨by decide, by decide⟩ (by decide) (by decide) hX (fun _ => ⟨rfl, rfl⟩)
set_option maxRecDepth 20000 in
set_option maxHeartbeats 400000 in
theorem c_reportAgex3 {l : Launch} {D : va_G} {ca : Nat → ClassId} {q0 : Nat} {sa : Nat → Nat} {ad : jAd} {z n : Nat} {V : jV} {a : Nat} (y x : Int32) (hI : XI n V) (ha : a < n) (hx : x = nI a) (hf : okP 6 y) (hg : ¬ fidx (fun j => decide (V 12 a j = y)) (tn (V 11 a 3)) < (tn (V 11 a 3))) : jMet l D ca q0 sa ad yX5_reportAge cX5_reportAge 4 (some .int) 3 1 6 [.ref (ad 0 0), .int y, .int x] (jS z n V) (jExc ns_C (jS z n V)) := by
  refine j_enter RX5 [some (.ref (ad 0 0)), some (.int y), some (.int x), none] rfl (by decide) (by simp [Value.category]) (Nat.le_of_ble_eq_true rfl) rfl ?_
  intro p e s m args below meth c K hnm hX
  have hn6 := hI.1
  have hl : decide (a < n) = true := decide_eq_true ha
  have ht : LV n 6 a = true := lv_pier ha
  have hR := hI.2.2.1 a ha
  have hR6 := hR.2.1
  refine j_aload_n K 0 dX5_reportAge_0 rfl rfl ?_
  refine j_iload_n K 1 dX5_reportAge_1 rfl rfl ?_
  refine j_iload_n K 2 dX5_reportAge_2 rfl rfl ?_
  refine j_cV2r K dX5_reportAge_3 m_X5_reportsFor v_X5_reportsFor k_X5_126 rfl ⟨by decide, rfl⟩ rfl (c_rF _ _ hI ha hx hf) (Nat.le_of_ble_eq_true rfl) ⟨by decide, by decide⟩ (by decide) (by decide) ?_
  refine j_astore_n K 3 dX5_reportAge_6 rfl (by decide) ?_
  refine j_aload_n K 3 dX5_reportAge_7 rfl rfl ?_
  refine jGr K 14 a dX5_reportAge_8 f_X5_161 rfl hl rfl rfl ?_
  refine j_aload_n K 3 dX5_reportAge_11 rfl rfl ?_
  refine j_iload_n K 1 dX5_reportAge_12 rfl rfl ?_
  exact j_cS2x K dX5_reportAge_13 m_X5_placeOfReport s_X5_placeOfReport k_X5_157 (c_pRx _ hl hR hg) (Nat.le_of_ble_eq_true rfl) ⟨by decide, by decide⟩ (by decide) (by decide) hX (fun _ => ⟨rfl, rfl⟩)
