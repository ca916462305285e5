theorem RI_put {V : jV} {a c0 q f : Nat} {x : Int32} (h : RI V a c0) (hf : f < 6) (hq : fidx (fun j => decide (V 12 a j = nI f)) c0 = q) (hr : q < 6) : RI (putV V a c0 f x q) a (if q < c0 then c0 else c0 + 1) := by
  obtain ⟨h1, h2, h3⟩ := h
  have hle : q ≤ c0 := hq ▸ fidx_le _ _
  by_cases hlt : q < c0
  · rw [if_pos hlt]
    refine ⟨?_, h2, fun j hj => ?_⟩
    · have : putV V a c0 f x q 11 a 3 = V 11 a 3 := by unfold putV; rw [if_pos hlt]; simp [up]
      rw [this]; exact h1
    · have : putV V a c0 f x q 12 a j = if j = q then nI f else V 12 a j := by unfold putV; rw [if_pos hlt]; simp [up]
      rw [this]
      split
      · exact ⟨f, hf, rfl⟩
      · exact h3 j hj
  · rw [if_neg hlt]
    have hqc : q = c0 := by omega
    refine ⟨?_, by omega, fun j hj => ?_⟩
    · have : putV V a c0 f x q 11 a 3 = V 11 a 3 + 1 := by unfold putV; rw [if_neg hlt]; simp [up]
      rw [this, h1]; exact nI_1 c0
    · have : putV V a c0 f x q 12 a j = if j = q then nI f else V 12 a j := by unfold putV; rw [if_neg hlt]; simp [up]
      rw [this]
      split
      · exact ⟨f, hf, rfl⟩
      · exact h3 j (by omega)
set_option maxRecDepth 20000 in
set_option maxHeartbeats 400000 in
theorem c_report {l : Launch} {D : va_G} {ca : Nat → ClassId} {q0 : Nat} {sa : Nat → Nat} {ad : jAd} {z n : Nat} {V : jV} {a f q : Nat} (y x mm : Int32) (hI : XI n V) (ha : a < n) (hx : x = nI a) (hff : f < 6) (hfy : y = nI f) (hm : -60 ≤ mm ∧ mm ≤ 60) (hq : fidx (fun j => decide (V 12 a j = nI f)) (tn (V 11 a 3)) = q) (hr : q < 6) : jMet l D ca q0 sa ad yX5_report cX5_report 5 (some .int) 3 0 0 [.ref (ad 0 0), .int y, .int x, .int mm] (jS z n V) (jRet (some (.int (corr (xmin (putV V a (tn (V 11 a 3)) f mm q) a) (xtru (putV V a (tn (V 11 a 3)) f mm q) a) (if q < (tn (V 11 a 3)) then (tn (V 11 a 3)) else (tn (V 11 a 3)) + 1)))) (jS z n (putV V a (tn (V 11 a 3)) f mm q))) := by
  refine j_enter RX5 [some (.ref (ad 0 0)), some (.int y), some (.int x), some (.int mm), none] rfl (by decide) (by simp [Value.category]) (Nat.le_of_ble_eq_true rfl) rfl ?_
  intro p e s m args below meth c K hnm hX
  have hn6 := hI.1
  have hl : decide (a < n) = true := decide_eq_true ha
  have ht : LV n 6 a = true := lv_pier ha
  have hR := hI.2.2.1 a ha
  have hR2 := RI_put (x := mm) hR hff hq hr
  subst hfy
  refine j_aload_n K 0 dX5_report_0 rfl rfl ?_
  refine j_iload_n K 1 dX5_report_1 rfl rfl ?_
  refine j_iload_n K 2 dX5_report_2 rfl rfl ?_
  refine j_cV2r K dX5_report_3 m_X5_reportsFor v_X5_reportsFor k_X5_126 rfl ⟨by decide, rfl⟩ rfl (c_rF _ _ hI ha hx ⟨f, hff, rfl⟩) (Nat.le_of_ble_eq_true rfl) ⟨by decide, by decide⟩ (by decide) (by decide) ?_
  refine j_astore K dX5_report_6 (by decide) ?_
  refine j_iload_n K 3 dX5_report_8 rfl rfl ?_
  refine j_cS1n K dX5_report_9 m_X5_demandMinutesLate s_X5_demandMinutesLate k_X5_130 (c_dM _ hm) (Nat.le_of_ble_eq_true rfl) ⟨by decide, by decide⟩ (by decide) (by decide) ?_
  refine j_aload K dX5_report_12 rfl ?_
  refine j_iload_n K 1 dX5_report_14 rfl rfl ?_
  refine j_iload_n K 3 dX5_report_15 rfl rfl ?_
  refine j_cV2n K dX5_report_16 m_X2_put v_X2_put k_X5_133 rfl ⟨by decide, rfl⟩ hl (c_X2_put _ hl hR.1 hR.2.1 hq hr) (Nat.le_of_ble_eq_true rfl) ⟨by decide, by decide⟩ (by decide) (by decide) ?_
  refine j_aload K dX5_report_19 rfl ?_
  refine j_cV0r K dX5_report_21 m_X2_correction v_X2_correction k_X5_137 rfl ⟨by decide, rfl⟩ hl (c_X2_correction hl hR2.1 hR2.2.1 hR2.2.2) (Nat.le_of_ble_eq_true rfl) ⟨by decide, by decide⟩ (by decide) (by decide) ?_
  refine j_iret K dX5_report_24 ?_
  exact ⟨rfl, rfl⟩
set_option maxRecDepth 20000 in
set_option maxHeartbeats 400000 in
theorem c_reportx1 {l : Launch} {D : va_G} {ca : Nat → ClassId} {q0 : Nat} {sa : Nat → Nat} {ad : jAd} {z n : Nat} {V : jV} (y x mm : Int32) (hI : XI n V) (h : ¬ okP 6 y) : jMet l D ca q0 sa ad yX5_report cX5_report 5 (some .int) 3 1 6 [.ref (ad 0 0), .int y, .int x, .int mm] (jS z n V) (jExc "java/lang/IndexOutOfBoundsException" (jS z n V)) := by
  refine j_enter RX5 [some (.ref (ad 0 0)), some (.int y), some (.int x), some (.int mm), none] rfl (by decide) (by simp [Value.category]) (Nat.le_of_ble_eq_true rfl) rfl ?_
  intro p e s m args below meth c K hnm hX
  refine j_aload_n K 0 dX5_report_0 rfl rfl ?_
  refine j_iload_n K 1 dX5_report_1 rfl rfl ?_
  refine j_iload_n K 2 dX5_report_2 rfl rfl ?_
  exact j_cV2x K dX5_report_3 m_X5_reportsFor v_X5_reportsFor k_X5_126 rfl ⟨by decide, rfl⟩ rfl (c_rFx1 _ _ hI h) (Nat.le_of_ble_eq_true rfl) ⟨by decide, by decide⟩ (by decide) (by decide) hX (fun _ => ⟨rfl, rfl⟩)
set_option maxRecDepth 20000 in
set_option maxHeartbeats 400000 in
theorem c_reportx2 {l : Launch} {D : va_G} {ca : Nat → ClassId} {q0 : Nat} {sa : Nat → Nat} {ad : jAd} {z n : Nat} {V : jV} (y x mm : Int32) (hI : XI n V) (hf : okP 6 y) (h : ¬ okP n x) : jMet l D ca q0 sa ad yX5_report cX5_report 5 (some .int) 3 1 6 [.ref (ad 0 0), .int y, .int x, .int mm] (jS z n V) (jExc "java/lang/IndexOutOfBoundsException" (jS z n V)) := by
  refine j_enter RX5 [some (.ref (ad 0 0)), some (.int y), some (.int x), some (.int mm), none] rfl (by decide) (by simp [Value.category]) (Nat.le_of_ble_eq_true rfl) rfl ?_
  intro p e s m args below meth c K hnm hX
  refine j_aload_n K 0 dX5_report_0 rfl rfl ?_
  refine j_iload_n K 1 dX5_report_1 rfl rfl ?_
  refine j_iload_n K 2 dX5_report_2 rfl rfl ?_
  exact j_cV2x K dX5_report_3 m_X5_reportsFor v_X5_reportsFor k_X5_126 rfl ⟨by decide, rfl⟩ rfl (c_rFx2 _ _ hI hf h) (Nat.le_of_ble_eq_true rfl) ⟨by decide, by decide⟩ (by decide) (by decide) hX (fun _ => ⟨rfl, rfl⟩)
set_option maxRecDepth 20000 in
set_option maxHeartbeats 400000 in
theorem c_reportx3 {l : Launch} {D : va_G} {ca : Nat → ClassId} {q0 : Nat} {sa : Nat → Nat} {ad : jAd} {z n : Nat} {V : jV} {a : Nat} (y x mm : Int32) (hI : XI n V) (ha : a < n) (hx : x = nI a) (hf : okP 6 y) (h : ¬ (-60 ≤ mm ∧ mm ≤ 60)) : jMet l D ca q0 sa ad yX5_report cX5_report 5 (some .int) 3 1 6 [.ref (ad 0 0), .int y, .int x, .int mm] (jS z n V) (jExc "java/lang/IllegalArgumentException" (jS z n V)) := by
  refine j_enter RX5 [some (.ref (ad 0 0)), some (.int y), some (.int x), some (.int mm), none] rfl (by decide) (by simp [Value.category]) (Nat.le_of_ble_eq_true rfl) rfl ?_
  intro p e s m args below meth c K hnm hX
  refine j_aload_n K 0 dX5_report_0 rfl rfl ?_
  refine j_iload_n K 1 dX5_report_1 rfl rfl ?_
  refine j_iload_n K 2 dX5_report_2 rfl rfl ?_
  refine j_cV2r K dX5_report_3 m_X5_reportsFor v_X5_reportsFor k_X5_126 rfl ⟨by decide, rfl⟩ rfl (c_rF _ _ hI ha hx hf) (Nat.le_of_ble_eq_true rfl) ⟨by decide, by decide⟩ (by decide) (by decide) ?_
  refine j_astore K dX5_report_6 (by decide) ?_
  refine j_iload_n K 3 dX5_report_8 rfl rfl ?_
  exact j_cS1x K dX5_report_9 m_X5_demandMinutesLate s_X5_demandMinutesLate k_X5_130 (c_dMx _ h) (Nat.le_of_ble_eq_true rfl) ⟨by decide, by decide⟩ (by decide) (by decide) hX (fun _ => ⟨rfl, rfl⟩)
set_option maxRecDepth 20000 in
set_option maxHeartbeats 400000 in
theorem c_observe {l : Launch} {D : va_G} {ca : Nat → ClassId} {q0 : Nat} {sa : Nat → Nat} {ad : jAd} {z n : Nat} {V : jV} {a : Nat} (x mm : Int32) (hI : XI n V) (ha : a < n) (hx : x = nI a) (hm : -60 ≤ mm ∧ mm ≤ 60)  : jMet l D ca q0 sa ad yX5_observe cX5_observe 4 (some .int) 2 0 0 [.ref (ad 0 0), .int x, .int mm] (jS z n V) (jRet (some (.int (cmpV a mm (tn (V 11 a 3)) V 0).2)) (jS z n (cmpV a mm (tn (V 11 a 3)) V 0).1)) := by
  refine j_enter RX5 [some (.ref (ad 0 0)), some (.int x), some (.int mm), none] rfl (by decide) (by simp [Value.category]) (Nat.le_of_ble_eq_true rfl) rfl ?_
  intro p e s m args below meth c K hnm hX
  have hn6 := hI.1
  have hl : decide (a < n) = true := decide_eq_true ha
  have ht : LV n 6 a = true := lv_pier ha
  refine j_aload_n K 0 dX5_observe_0 rfl rfl ?_
  refine j_iload_n K 1 dX5_observe_1 rfl rfl ?_
  refine j_cV1r K dX5_observe_2 m_X5_pierNumbered v_X5_pierNumbered k_X5_95 rfl ⟨by decide, rfl⟩ rfl (c_pN _ hI ha hx) (Nat.le_of_ble_eq_true rfl) ⟨by decide, by decide⟩ (by decide) (by decide) ?_
  refine j_astore_n K 3 dX5_observe_5 rfl (by decide) ?_
  refine j_iload_n K 2 dX5_observe_6 rfl rfl ?_
  refine j_cS1n K dX5_observe_7 m_X5_demandMinutesLate s_X5_demandMinutesLate k_X5_130 (c_dM _ hm) (Nat.le_of_ble_eq_true rfl) ⟨by decide, by decide⟩ (by decide) (by decide) ?_
  refine j_aload_n K 3 dX5_observe_10 rfl rfl ?_
  refine jGr K 11 a dX5_observe_11 f_X5_69 rfl hl rfl rfl ?_
  refine j_iload_n K 2 dX5_observe_14 rfl rfl ?_
  refine j_cV1r K dX5_observe_15 m_X2_compareWith v_X2_compareWith k_X5_141 rfl ⟨by decide, rfl⟩ hl (c_X2_compareWith _ hl (hI.2.2.1 a ha)) (Nat.le_of_ble_eq_true rfl) ⟨by decide, by decide⟩ (by decide) (by decide) ?_
  refine j_iret K dX5_observe_18 ?_
  exact ⟨rfl, rfl⟩
set_option maxRecDepth 20000 in
set_option maxHeartbeats 400000 in
theorem c_observex1 {l : Launch} {D : va_G} {ca : Nat → ClassId} {q0 : Nat} {sa : Nat → Nat} {ad : jAd} {z n : Nat} {V : jV} (x mm : Int32) (hI : XI n V) (h : ¬ okP n x) : jMet l D ca q0 sa ad yX5_observe cX5_observe 4 (some .int) 2 1 6 [.ref (ad 0 0), .int x, .int mm] (jS z n V) (jExc "java/lang/IndexOutOfBoundsException" (jS z n V)) := by
  refine j_enter RX5 [some (.ref (ad 0 0)), some (.int x), some (.int mm), none] rfl (by decide) (by simp [Value.category]) (Nat.le_of_ble_eq_true rfl) rfl ?_
  intro p e s m args below meth c K hnm hX
  refine j_aload_n K 0 dX5_observe_0 rfl rfl ?_
  refine j_iload_n K 1 dX5_observe_1 rfl rfl ?_
  exact j_cV1x K dX5_observe_2 m_X5_pierNumbered v_X5_pierNumbered k_X5_95 rfl ⟨by decide, rfl⟩ rfl (c_pNx _ hI h) (Nat.le_of_ble_eq_true rfl) ⟨by decide, by decide⟩ (by decide) (by decide) hX (fun _ => ⟨rfl, rfl⟩)
set_option maxRecDepth 20000 in
set_option maxHeartbeats 400000 in
theorem c_observex2 {l : Launch} {D : va_G} {ca : Nat → ClassId} {q0 : Nat} {sa : Nat → Nat} {ad : jAd} {z n : Nat} {V : jV} {a : Nat} (x mm : Int32) (hI : XI n V) (ha : a < n) (hx : x = nI a) (h : ¬ (-60 ≤ mm ∧ mm ≤ 60)) : jMet l D ca q0 sa ad yX5_observe cX5_observe 4 (some .int) 2 1 6 [.ref (ad 0 0), .int x, .int mm] (jS z n V) (jExc "java/lang/IllegalArgumentException" (jS z n V)) := by
  refine j_enter RX5 [some (.ref (ad 0 0)), some (.int x), some (.int mm), none] rfl (by decide) (by simp [Value.category]) (Nat.le_of_ble_eq_true rfl) rfl ?_
  intro p e s m args below meth c K hnm hX
  have hn6 := hI.1
  have hl : decide (a < n) = true := decide_eq_true ha
  have ht : LV n 6 a = true := lv_pier ha
  refine j_aload_n K 0 dX5_observe_0 rfl rfl ?_
  refine j_iload_n K 1 dX5_observe_1 rfl rfl ?_
  refine j_cV1r K dX5_observe_2 m_X5_pierNumbered v_X5_pierNumbered k_X5_95 rfl ⟨by decide, rfl⟩ rfl (c_pN _ hI ha hx) (Nat.le_of_ble_eq_true rfl) ⟨by decide, by decide⟩ (by decide) (by decide) ?_
  refine j_astore_n K 3 dX5_observe_5 rfl (by decide) ?_
  refine j_iload_n K 2 dX5_observe_6 rfl rfl ?_
  exact j_cS1x K dX5_observe_7 m_X5_demandMinutesLate s_X5_demandMinutesLate k_X5_130 (c_dMx _ h) (Nat.le_of_ble_eq_true rfl) ⟨by decide, by decide⟩ (by decide) (by decide) hX (fun _ => ⟨rfl, rfl⟩)
set_option maxRecDepth 20000 in
set_option maxHeartbeats 400000 in
theorem c_correctionOf {l : Launch} {D : va_G} {ca : Nat → ClassId} {q0 : Nat} {sa : Nat → Nat} {ad : jAd} {z n : Nat} {V : jV} {a : Nat} (x : Int32) (hI : XI n V) (ha : a < n) (hx : x = nI a)  : jMet l D ca q0 sa ad yX5_correctionOf cX5_correctionOf 2 (some .int) 2 0 0 [.ref (ad 0 0), .int x] (jS z n V) (jRet (some (.int (corr (xmin V a) (xtru V a) (tn (V 11 a 3))))) (jS z n V)) := by
  refine j_enter RX5 [some (.ref (ad 0 0)), some (.int x)] rfl (by decide) (by simp [Value.category]) (Nat.le_of_ble_eq_true rfl) rfl ?_
  intro p e s m args below meth c K hnm hX
  have hn6 := hI.1
  have hl : decide (a < n) = true := decide_eq_true ha
  have ht : LV n 6 a = true := lv_pier ha
  refine j_aload_n K 0 dX5_correctionOf_0 rfl rfl ?_
  refine j_iload_n K 1 dX5_correctionOf_1 rfl rfl ?_
  refine j_cV1r K dX5_correctionOf_2 m_X5_pierNumbered v_X5_pierNumbered k_X5_95 rfl ⟨by decide, rfl⟩ rfl (c_pN _ hI ha hx) (Nat.le_of_ble_eq_true rfl) ⟨by decide, by decide⟩ (by decide) (by decide) ?_
  refine jGr K 11 a dX5_correctionOf_5 f_X5_69 rfl hl rfl rfl ?_
  refine j_cV0r K dX5_correctionOf_8 m_X2_correction v_X2_correction k_X5_137 rfl ⟨by decide, rfl⟩ hl (c_X2_correction hl (hI.2.2.1 a ha).1 (hI.2.2.1 a ha).2.1 (hI.2.2.1 a ha).2.2) (Nat.le_of_ble_eq_true rfl) ⟨by decide, by decide⟩ (by decide) (by decide) ?_
  refine j_iret K dX5_correctionOf_11 ?_
  exact ⟨rfl, rfl⟩
set_option maxRecDepth 20000 in
set_option maxHeartbeats 400000 in
theorem c_correctionOfx1 {l : Launch} {D : va_G} {ca : Nat → ClassId} {q0 : Nat} {sa : Nat → Nat} {ad : jAd} {z n : Nat} {V : jV} (x : Int32) (hI : XI n V) (h : ¬ okP n x) : jMet l D ca q0 sa ad yX5_correctionOf cX5_correctionOf 2 (some .int) 2 1 6 [.ref (ad 0 0), .int x] (jS z n V) (jExc "java/lang/IndexOutOfBoundsException" (jS z n V)) := by
  refine j_enter RX5 [some (.ref (ad 0 0)), some (.int x)] rfl (by decide) (by simp [Value.category]) (Nat.le_of_ble_eq_true rfl) rfl ?_
  intro p e s m args below meth c K hnm hX
  refine j_aload_n K 0 dX5_correctionOf_0 rfl rfl ?_
  refine j_iload_n K 1 dX5_correctionOf_1 rfl rfl ?_
  exact j_cV1x K dX5_correctionOf_2 m_X5_pierNumbered v_X5_pierNumbered k_X5_95 rfl ⟨by decide, rfl⟩ rfl (c_pNx _ hI h) (Nat.le_of_ble_eq_true rfl) ⟨by decide, by decide⟩ (by decide) (by decide) hX (fun _ => ⟨rfl, rfl⟩)
set_option maxRecDepth 20000 in
set_option maxHeartbeats 400000 in
theorem c_reportCount {l : Launch} {D : va_G} {ca : Nat → ClassId} {q0 : Nat} {sa : Nat → Nat} {ad : jAd} {z n : Nat} {V : jV} {a : Nat} (x : Int32) (hI : XI n V) (ha : a < n) (hx : x = nI a)  : jMet l D ca q0 sa ad yX5_reportCount cX5_reportCount 2 (some .int) 2 0 0 [.ref (ad 0 0), .int x] (jS z n V) (jRet (some (.int (V 11 a 3))) (jS z n V)) := by
  refine j_enter RX5 [some (.ref (ad 0 0)), some (.int x)] rfl (by decide) (by simp [Value.category]) (Nat.le_of_ble_eq_true rfl) rfl ?_
  intro p e s m args below meth c K hnm hX
  have hn6 := hI.1
  have hl : decide (a < n) = true := decide_eq_true ha
  have ht : LV n 6 a = true := lv_pier ha
  refine j_aload_n K 0 dX5_reportCount_0 rfl rfl ?_
  refine j_iload_n K 1 dX5_reportCount_1 rfl rfl ?_
  refine j_cV1r K dX5_reportCount_2 m_X5_pierNumbered v_X5_pierNumbered k_X5_95 rfl ⟨by decide, rfl⟩ rfl (c_pN _ hI ha hx) (Nat.le_of_ble_eq_true rfl) ⟨by decide, by decide⟩ (by decide) (by decide) ?_
  refine jGr K 11 a dX5_reportCount_5 f_X5_69 rfl hl rfl rfl ?_
  refine jGi K dX5_reportCount_8 f_X5_147 rfl hl rfl ?_
  refine j_iret K dX5_reportCount_11 ?_
  exact ⟨rfl, rfl⟩
set_option maxRecDepth 20000 in
set_option maxHeartbeats 400000 in
theorem c_reportCountx1 {l : Launch} {D : va_G} {ca : Nat → ClassId} {q0 : Nat} {sa : Nat → Nat} {ad : jAd} {z n : Nat} {V : jV} (x : Int32) (hI : XI n V) (h : ¬ okP n x) : jMet l D ca q0 sa ad yX5_reportCount cX5_reportCount 2 (some .int) 2 1 6 [.ref (ad 0 0), .int x] (jS z n V) (jExc "java/lang/IndexOutOfBoundsException" (jS z n V)) := by
  refine j_enter RX5 [some (.ref (ad 0 0)), some (.int x)] rfl (by decide) (by simp [Value.category]) (Nat.le_of_ble_eq_true rfl) rfl ?_
  intro p e s m args below meth c K hnm hX
  refine j_aload_n K 0 dX5_reportCount_0 rfl rfl ?_
  refine j_iload_n K 1 dX5_reportCount_1 rfl rfl ?_
  exact j_cV1x K dX5_reportCount_2 m_X5_pierNumbered v_X5_pierNumbered k_X5_95 rfl ⟨by decide, rfl⟩ rfl (c_pNx _ hI h) (Nat.le_of_ble_eq_true rfl) ⟨by decide, by decide⟩ (by decide) (by decide) hX (fun _ => ⟨rfl, rfl⟩)
set_option maxRecDepth 20000 in
set_option maxHeartbeats 400000 in
theorem c_boardDay {l : Launch} {D : va_G} {ca : Nat → ClassId} {q0 : Nat} {sa : Nat → Nat} {ad : jAd} {z n : Nat} {V : jV} {a : Nat} (x : Int32) (hI : XI n V) (ha : a < n) (hx : x = nI a)  : jMet l D ca q0 sa ad yX5_boardDay cX5_boardDay 2 (some .int) 2 0 0 [.ref (ad 0 0), .int x] (jS z n V) (jRet (some (.int (V 15 a 3))) (jS z n V)) := by
  refine j_enter RX5 [some (.ref (ad 0 0)), some (.int x)] rfl (by decide) (by simp [Value.category]) (Nat.le_of_ble_eq_true rfl) rfl ?_
  intro p e s m args below meth c K hnm hX
  have hn6 := hI.1
  have hl : decide (a < n) = true := decide_eq_true ha
  have ht : LV n 6 a = true := lv_pier ha
  refine j_aload_n K 0 dX5_boardDay_0 rfl rfl ?_
  refine j_iload_n K 1 dX5_boardDay_1 rfl rfl ?_
  refine j_cV1r K dX5_boardDay_2 m_X5_pierNumbered v_X5_pierNumbered k_X5_95 rfl ⟨by decide, rfl⟩ rfl (c_pN _ hI ha hx) (Nat.le_of_ble_eq_true rfl) ⟨by decide, by decide⟩ (by decide) (by decide) ?_
  refine jGr K 15 a dX5_boardDay_5 f_X5_79 rfl hl rfl rfl ?_
  refine jGi K dX5_boardDay_8 f_X5_225 rfl hl rfl ?_
  refine j_iret K dX5_boardDay_11 ?_
  exact ⟨rfl, rfl⟩
set_option maxRecDepth 20000 in
set_option maxHeartbeats 400000 in
theorem c_boardDayx1 {l : Launch} {D : va_G} {ca : Nat → ClassId} {q0 : Nat} {sa : Nat → Nat} {ad : jAd} {z n : Nat} {V : jV} (x : Int32) (hI : XI n V) (h : ¬ okP n x) : jMet l D ca q0 sa ad yX5_boardDay cX5_boardDay 2 (some .int) 2 1 6 [.ref (ad 0 0), .int x] (jS z n V) (jExc "java/lang/IndexOutOfBoundsException" (jS z n V)) := by
  refine j_enter RX5 [some (.ref (ad 0 0)), some (.int x)] rfl (by decide) (by simp [Value.category]) (Nat.le_of_ble_eq_true rfl) rfl ?_
  intro p e s m args below meth c K hnm hX
  refine j_aload_n K 0 dX5_boardDay_0 rfl rfl ?_
  refine j_iload_n K 1 dX5_boardDay_1 rfl rfl ?_
  exact j_cV1x K dX5_boardDay_2 m_X5_pierNumbered v_X5_pierNumbered k_X5_95 rfl ⟨by decide, rfl⟩ rfl (c_pNx _ hI h) (Nat.le_of_ble_eq_true rfl) ⟨by decide, by decide⟩ (by decide) (by decide) hX (fun _ => ⟨rfl, rfl⟩)
set_option maxRecDepth 20000 in
set_option maxHeartbeats 400000 in
theorem c_lineCount {l : Launch} {D : va_G} {ca : Nat → ClassId} {q0 : Nat} {sa : Nat → Nat} {ad : jAd} {z n : Nat} {V : jV} {a : Nat} (x : Int32) (hI : XI n V) (ha : a < n) (hx : x = nI a)  : jMet l D ca q0 sa ad yX5_lineCount cX5_lineCount 2 (some .int) 2 0 0 [.ref (ad 0 0), .int x] (jS z n V) (jRet (some (.int (V 6 a 3))) (jS z n V)) := by
  refine j_enter RX5 [some (.ref (ad 0 0)), some (.int x)] rfl (by decide) (by simp [Value.category]) (Nat.le_of_ble_eq_true rfl) rfl ?_
  intro p e s m args below meth c K hnm hX
  have hn6 := hI.1
  have hl : decide (a < n) = true := decide_eq_true ha
  have ht : LV n 6 a = true := lv_pier ha
  refine j_aload_n K 0 dX5_lineCount_0 rfl rfl ?_
  refine j_iload_n K 1 dX5_lineCount_1 rfl rfl ?_
  refine j_cV1r K dX5_lineCount_2 m_X5_pierNumbered v_X5_pierNumbered k_X5_95 rfl ⟨by decide, rfl⟩ rfl (c_pN _ hI ha hx) (Nat.le_of_ble_eq_true rfl) ⟨by decide, by decide⟩ (by decide) (by decide) ?_
  refine jGr K 15 a dX5_lineCount_5 f_X5_79 rfl hl rfl rfl ?_
  refine jGr K 6 a dX5_lineCount_8 f_X5_228 rfl hl rfl rfl ?_
  refine jGi K dX5_lineCount_11 f_X5_106 rfl ht rfl ?_
  refine j_iret K dX5_lineCount_14 ?_
  exact ⟨rfl, rfl⟩
set_option maxRecDepth 20000 in
set_option maxHeartbeats 400000 in
theorem c_lineCountx1 {l : Launch} {D : va_G} {ca : Nat → ClassId} {q0 : Nat} {sa : Nat → Nat} {ad : jAd} {z n : Nat} {V : jV} (x : Int32) (hI : XI n V) (h : ¬ okP n x) : jMet l D ca q0 sa ad yX5_lineCount cX5_lineCount 2 (some .int) 2 1 6 [.ref (ad 0 0), .int x] (jS z n V) (jExc "java/lang/IndexOutOfBoundsException" (jS z n V)) := by
  refine j_enter RX5 [some (.ref (ad 0 0)), some (.int x)] rfl (by decide) (by simp [Value.category]) (Nat.le_of_ble_eq_true rfl) rfl ?_
  intro p e s m args below meth c K hnm hX
  refine j_aload_n K 0 dX5_lineCount_0 rfl rfl ?_
  refine j_iload_n K 1 dX5_lineCount_1 rfl rfl ?_
  exact j_cV1x K dX5_lineCount_2 m_X5_pierNumbered v_X5_pierNumbered k_X5_95 rfl ⟨by decide, rfl⟩ rfl (c_pNx _ hI h) (Nat.le_of_ble_eq_true rfl) ⟨by decide, by decide⟩ (by decide) (by decide) hX (fun _ => ⟨rfl, rfl⟩)
set_option maxRecDepth 20000 in
set_option maxHeartbeats 400000 in
theorem c_dripsOf {l : Launch} {D : va_G} {ca : Nat → ClassId} {q0 : Nat} {sa : Nat → Nat} {ad : jAd} {z n : Nat} {V : jV} {a : Nat} (x : Int32) (hI : XI n V) (ha : a < n) (hx : x = nI a)  : jMet l D ca q0 sa ad yX5_dripsOf cX5_dripsOf 2 (some .int) 2 0 0 [.ref (ad 0 0), .int x] (jS z n V) (jRet (some (.int (V 15 a 4))) (jS z n V)) := by
  refine j_enter RX5 [some (.ref (ad 0 0)), some (.int x)] rfl (by decide) (by simp [Value.category]) (Nat.le_of_ble_eq_true rfl) rfl ?_
  intro p e s m args below meth c K hnm hX
  have hn6 := hI.1
  have hl : decide (a < n) = true := decide_eq_true ha
  have ht : LV n 6 a = true := lv_pier ha
  refine j_aload_n K 0 dX5_dripsOf_0 rfl rfl ?_
  refine j_iload_n K 1 dX5_dripsOf_1 rfl rfl ?_
  refine j_cV1r K dX5_dripsOf_2 m_X5_pierNumbered v_X5_pierNumbered k_X5_95 rfl ⟨by decide, rfl⟩ rfl (c_pN _ hI ha hx) (Nat.le_of_ble_eq_true rfl) ⟨by decide, by decide⟩ (by decide) (by decide) ?_
  refine jGr K 15 a dX5_dripsOf_5 f_X5_79 rfl hl rfl rfl ?_
  refine jGi K dX5_dripsOf_8 f_X5_241 rfl hl rfl ?_
  refine j_iret K dX5_dripsOf_11 ?_
  exact ⟨rfl, rfl⟩
set_option maxRecDepth 20000 in
set_option maxHeartbeats 400000 in
theorem c_dripsOfx1 {l : Launch} {D : va_G} {ca : Nat → ClassId} {q0 : Nat} {sa : Nat → Nat} {ad : jAd} {z n : Nat} {V : jV} (x : Int32) (hI : XI n V) (h : ¬ okP n x) : jMet l D ca q0 sa ad yX5_dripsOf cX5_dripsOf 2 (some .int) 2 1 6 [.ref (ad 0 0), .int x] (jS z n V) (jExc "java/lang/IndexOutOfBoundsException" (jS z n V)) := by
  refine j_enter RX5 [some (.ref (ad 0 0)), some (.int x)] rfl (by decide) (by simp [Value.category]) (Nat.le_of_ble_eq_true rfl) rfl ?_
  intro p e s m args below meth c K hnm hX
  refine j_aload_n K 0 dX5_dripsOf_0 rfl rfl ?_
  refine j_iload_n K 1 dX5_dripsOf_1 rfl rfl ?_
  exact j_cV1x K dX5_dripsOf_2 m_X5_pierNumbered v_X5_pierNumbered k_X5_95 rfl ⟨by decide, rfl⟩ rfl (c_pNx _ hI h) (Nat.le_of_ble_eq_true rfl) ⟨by decide, by decide⟩ (by decide) (by decide) hX (fun _ => ⟨rfl, rfl⟩)
set_option maxRecDepth 20000 in
set_option maxHeartbeats 400000 in
theorem c_unreadableLines {l : Launch} {D : va_G} {ca : Nat → ClassId} {q0 : Nat} {sa : Nat → Nat} {ad : jAd} {z n : Nat} {V : jV} {a : Nat} (x : Int32) (hI : XI n V) (ha : a < n) (hx : x = nI a)  : jMet l D ca q0 sa ad yX5_unreadableLines cX5_unreadableLines 2 (some .int) 2 0 0 [.ref (ad 0 0), .int x] (jS z n V) (jRet (some (.int (umk V a (tn (V 6 a 3))))) (jS z n V)) := by
  refine j_enter RX5 [some (.ref (ad 0 0)), some (.int x)] rfl (by decide) (by simp [Value.category]) (Nat.le_of_ble_eq_true rfl) rfl ?_
  intro p e s m args below meth c K hnm hX
  have hn6 := hI.1
  have hl : decide (a < n) = true := decide_eq_true ha
  have ht : LV n 6 a = true := lv_pier ha
  have hw := hI.2.2.2.1 a ha
  obtain ⟨hw, hw4⟩ := hw
  refine j_aload_n K 0 dX5_unreadableLines_0 rfl rfl ?_
  refine j_iload_n K 1 dX5_unreadableLines_1 rfl rfl ?_
  refine j_cV1r K dX5_unreadableLines_2 m_X5_pierNumbered v_X5_pierNumbered k_X5_95 rfl ⟨by decide, rfl⟩ rfl (c_pN _ hI ha hx) (Nat.le_of_ble_eq_true rfl) ⟨by decide, by decide⟩ (by decide) (by decide) ?_
  refine jGr K 15 a dX5_unreadableLines_5 f_X5_79 rfl hl rfl rfl ?_
  refine j_cV0r K dX5_unreadableLines_8 m_X0_unreadableMask v_X0_unreadableMask k_X5_244 rfl ⟨by decide, rfl⟩ hl (c_X0_unreadableMask hl ht hw hw4) (Nat.le_of_ble_eq_true rfl) ⟨by decide, by decide⟩ (by decide) (by decide) ?_
  refine j_iret K dX5_unreadableLines_11 ?_
  exact ⟨rfl, rfl⟩
set_option maxRecDepth 20000 in
set_option maxHeartbeats 400000 in
theorem c_unreadableLinesx1 {l : Launch} {D : va_G} {ca : Nat → ClassId} {q0 : Nat} {sa : Nat → Nat} {ad : jAd} {z n : Nat} {V : jV} (x : Int32) (hI : XI n V) (h : ¬ okP n x) : jMet l D ca q0 sa ad yX5_unreadableLines cX5_unreadableLines 2 (some .int) 2 1 6 [.ref (ad 0 0), .int x] (jS z n V) (jExc "java/lang/IndexOutOfBoundsException" (jS z n V)) := by
  refine j_enter RX5 [some (.ref (ad 0 0)), some (.int x)] rfl (by decide) (by simp [Value.category]) (Nat.le_of_ble_eq_true rfl) rfl ?_
  intro p e s m args below meth c K hnm hX
  refine j_aload_n K 0 dX5_unreadableLines_0 rfl rfl ?_
  refine j_iload_n K 1 dX5_unreadableLines_1 rfl rfl ?_
  exact j_cV1x K dX5_unreadableLines_2 m_X5_pierNumbered v_X5_pierNumbered k_X5_95 rfl ⟨by decide, rfl⟩ rfl (c_pNx _ hI h) (Nat.le_of_ble_eq_true rfl) ⟨by decide, by decide⟩ (by decide) (by decide) hX (fun _ => ⟨rfl, rfl⟩)
set_option maxRecDepth 20000 in
set_option maxHeartbeats 400000 in
theorem c_isRight {l : Launch} {D : va_G} {ca : Nat → ClassId} {q0 : Nat} {sa : Nat → Nat} {ad : jAd} {z n : Nat} {V : jV} {a : Nat} (x : Int32) (hI : XI n V) (ha : a < n) (hx : x = nI a)  : jMet l D ca q0 sa ad yX5_isRight cX5_isRight 2 (some .boolean) 4 0 0 [.ref (ad 0 0), .int x] (jS z n V) (jRet (some (.int (shwB V a))) (jS z n (shwV V a))) := by
  refine j_enter RX5 [some (.ref (ad 0 0)), some (.int x)] rfl (by decide) (by simp [Value.category]) (Nat.le_of_ble_eq_true rfl) rfl ?_
  intro p e s m args below meth c K hnm hX
  have hn6 := hI.1
  have hl : decide (a < n) = true := decide_eq_true ha
  have ht : LV n 6 a = true := lv_pier ha
  have hs1 : shwB V a = 0 ∨ shwB V a = 1 := by
    unfold shwB mtc
    split
    · split; exact Or.inr rfl; exact Or.inl rfl
    · exact Or.inl rfl
  refine j_aload_n K 0 dX5_isRight_0 rfl rfl ?_
  refine j_aload_n K 0 dX5_isRight_1 rfl rfl ?_
  refine j_iload_n K 1 dX5_isRight_2 rfl rfl ?_
  refine j_cV1r K dX5_isRight_3 m_X5_pierNumbered v_X5_pierNumbered k_X5_95 rfl ⟨by decide, rfl⟩ rfl (c_pN _ hI ha hx) (Nat.le_of_ble_eq_true rfl) ⟨by decide, by decide⟩ (by decide) (by decide) ?_
  refine j_cV1r K dX5_isRight_6 m_X5_showsThisDay v_X5_showsThisDay k_X5_247 rfl ⟨by decide, rfl⟩ rfl (c_X5_showsThisDay hI ha) (Nat.le_of_ble_eq_true rfl) ⟨by decide, by decide⟩ (by decide) (by decide) ?_
  refine j_zret K dX5_isRight_9 hs1 ?_
  exact ⟨rfl, rfl⟩
set_option maxRecDepth 20000 in
set_option maxHeartbeats 400000 in
theorem c_isRightx1 {l : Launch} {D : va_G} {ca : Nat → ClassId} {q0 : Nat} {sa : Nat → Nat} {ad : jAd} {z n : Nat} {V : jV} (x : Int32) (hI : XI n V) (h : ¬ okP n x) : jMet l D ca q0 sa ad yX5_isRight cX5_isRight 2 (some .boolean) 4 1 6 [.ref (ad 0 0), .int x] (jS z n V) (jExc "java/lang/IndexOutOfBoundsException" (jS z n V)) := by
  refine j_enter RX5 [some (.ref (ad 0 0)), some (.int x)] rfl (by decide) (by simp [Value.category]) (Nat.le_of_ble_eq_true rfl) rfl ?_
  intro p e s m args below meth c K hnm hX
  refine j_aload_n K 0 dX5_isRight_0 rfl rfl ?_
  refine j_aload_n K 0 dX5_isRight_1 rfl rfl ?_
  refine j_iload_n K 1 dX5_isRight_2 rfl rfl ?_
  exact j_cV1x K dX5_isRight_3 m_X5_pierNumbered v_X5_pierNumbered k_X5_95 rfl ⟨by decide, rfl⟩ rfl (c_pNx _ hI h) (Nat.le_of_ble_eq_true rfl) ⟨by decide, by decide⟩ (by decide) (by decide) hX (fun _ => ⟨rfl, rfl⟩)
set_option maxRecDepth 20000 in
set_option maxHeartbeats 400000 in
theorem c_trustOf {l : Launch} {D : va_G} {ca : Nat → ClassId} {q0 : Nat} {sa : Nat → Nat} {ad : jAd} {z n : Nat} {V : jV} {f : Nat} (y : Int32) (hff : f < 6) (hfy : y = nI f)  : jMet l D ca q0 sa ad yX5_trustOf cX5_trustOf 2 (some .int) 1 0 0 [.ref (ad 0 0), .int y] (jS z n V) (jRet (some (.int (V 2 0 f))) (jS z n V)) := by
  refine j_enter RX5 [some (.ref (ad 0 0)), some (.int y)] rfl (by decide) (by simp [Value.category]) (Nat.le_of_ble_eq_true rfl) rfl ?_
  intro p e s m args below meth c K hnm hX
  refine j_iload_n K 1 dX5_trustOf_0 rfl rfl ?_
  refine j_cS1n K dX5_trustOf_1 m_X5_demandFisherman s_X5_demandFisherman k_X5_144 (c_dF _ ⟨f, hff, hfy⟩) (Nat.le_of_ble_eq_true rfl) ⟨by decide, by decide⟩ (by decide) (by decide) ?_
  refine j_aload_n K 0 dX5_trustOf_4 rfl rfl ?_
  refine jGr K 2 0 dX5_trustOf_5 f_X5_19 rfl rfl rfl rfl ?_
  refine j_iload_n K 1 dX5_trustOf_8 rfl rfl ?_
  refine jIald K (f) dX5_trustOf_9 rfl rfl hfy (by omega) ?_
  refine j_iret K dX5_trustOf_10 ?_
  exact ⟨rfl, rfl⟩
set_option maxRecDepth 20000 in
set_option maxHeartbeats 400000 in
theorem c_trustOfx1 {l : Launch} {D : va_G} {ca : Nat → ClassId} {q0 : Nat} {sa : Nat → Nat} {ad : jAd} {z n : Nat} {V : jV} (y : Int32) (h : ¬ okP 6 y) : jMet l D ca q0 sa ad yX5_trustOf cX5_trustOf 2 (some .int) 1 1 6 [.ref (ad 0 0), .int y] (jS z n V) (jExc "java/lang/IndexOutOfBoundsException" (jS z n V)) := by
  refine j_enter RX5 [some (.ref (ad 0 0)), some (.int y)] rfl (by decide) (by simp [Value.category]) (Nat.le_of_ble_eq_true rfl) rfl ?_
  intro p e s m args below meth c K hnm hX
  refine j_iload_n K 1 dX5_trustOf_0 rfl rfl ?_
  exact j_cS1x K dX5_trustOf_1 m_X5_demandFisherman s_X5_demandFisherman k_X5_144 (c_dFx _ h) (Nat.le_of_ble_eq_true rfl) ⟨by decide, by decide⟩ (by decide) (by decide) hX (fun _ => ⟨rfl, rfl⟩)
