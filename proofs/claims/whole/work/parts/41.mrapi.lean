def jdY (t d : Int32) : Int32 := if d ≤ 5 then (if t + 1 < 9 then t + 1 else 9) else (if 1 < t - 1 then t - 1 else 1)
def obY1 (V : jV) (i j : Nat) (mm : Int32) : jV := up V 29 0 (tn (V 31 0 (6 * i + j))) (jdY (V 29 0 (tn (V 31 0 (6 * i + j)))) (absI (V 32 0 (6 * i + j) - mm)))
/-- the first j reports held against an observation, from the last to the first -/
def obY (i : Nat) (mm : Int32) : Nat → jV → Int32 → jV × Int32
  | 0, V, x => (V, x)
  | j + 1, V, x => if 30 < absI (V 32 0 (6 * i + j) - mm) then obY i mm j (remY (obY1 V i j mm) i j) (x + 1) else obY i mm j (obY1 V i j mm) x
set_option maxRecDepth 20000 in
set_option maxHeartbeats 400000 in
theorem c_M_reporterAtx1 {l : Launch} {D : va_G} {ca : Nat → ClassId} {q0 : Nat} {sa : Nat → Nat} {ad : jAd} {z n : Nat} {V : jV} (x y : Int32) (hI : n ≤ 6 ∧ V 20 0 1 = nI n) (h : ¬ okP n x)  : jMet l D ca q0 sa ad yX6_reporterAt cX6_reporterAt 3 (some .int) 3 0 0 [.ref (ad 20 0), .int x, .int y] (jS z n V) (jRet (some (.int 0)) (jS z n (thr V 1))) := by
  refine j_enter RX6 [some (.ref (ad 20 0)), some (.int x), some (.int y)] rfl (by decide) (by simp [Value.category]) (Nat.le_of_ble_eq_true rfl) rfl ?_
  intro p e s m args below meth c K hnm hX
  have hn6 := hI.1
  have hp := hI.2
  refine j_aload_n K 0 dX6_reporterAt_0 rfl rfl ?_
  refine j_iload_n K 1 dX6_reporterAt_1 rfl rfl ?_
  refine j_cV1r K dX6_reporterAt_2 m_X6_isPier v_X6_isPier k_X6_125 rfl ⟨by decide, rfl⟩ rfl (c_MP0 _ hI h) (Nat.le_of_ble_eq_true rfl) ⟨by decide, by decide⟩ (by decide) (by decide) ?_
  refine j_if_ne K 10 dX6_reporterAt_5 (by decide) (fun h_5 => absurd (by decide) h_5) (fun h_5 => ?_)
  refine j_iconst K 0 dX6_reporterAt_8 rfl ?_
  refine j_iret K dX6_reporterAt_9 ?_
  exact ⟨rfl, rfl⟩
set_option maxRecDepth 20000 in
set_option maxHeartbeats 400000 in
theorem c_M_reporterAtx2 {l : Launch} {D : va_G} {ca : Nat → ClassId} {q0 : Nat} {sa : Nat → Nat} {ad : jAd} {z n a c0 : Nat} {V : jV} (x y : Int32) (hI : n ≤ 6 ∧ V 20 0 1 = nI n) (ha : a < n) (hx : x = nI a) (hR : YR V a c0) (hy : ¬ okP c0 y)  : jMet l D ca q0 sa ad yX6_reporterAt cX6_reporterAt 3 (some .int) 3 0 0 [.ref (ad 20 0), .int x, .int y] (jS z n V) (jRet (some (.int 0)) (jS z n (thr (thr V 0) 2))) := by
  refine j_enter RX6 [some (.ref (ad 20 0)), some (.int x), some (.int y)] rfl (by decide) (by simp [Value.category]) (Nat.le_of_ble_eq_true rfl) rfl ?_
  intro p e s m args below meth c K hnm hX
  have hn6 := hI.1
  have hp := hI.2
  refine j_aload_n K 0 dX6_reporterAt_0 rfl rfl ?_
  refine j_iload_n K 1 dX6_reporterAt_1 rfl rfl ?_
  refine j_cV1r K dX6_reporterAt_2 m_X6_isPier v_X6_isPier k_X6_125 rfl ⟨by decide, rfl⟩ rfl (c_MP _ hI ⟨a, ha, hx⟩) (Nat.le_of_ble_eq_true rfl) ⟨by decide, by decide⟩ (by decide) (by decide) ?_
  refine j_if_ne K 10 dX6_reporterAt_5 (by decide) (fun h_5 => ?_) (fun h_5 => absurd h_5 (by decide))
  refine j_iload_n K 2 dX6_reporterAt_10 rfl rfl ?_
  refine j_iconst K 0 dX6_reporterAt_11 rfl ?_
  refine j_aload_n K 0 dX6_reporterAt_12 rfl rfl ?_
  refine jGr K 30 0 dX6_reporterAt_13 f_X6_28 rfl rfl rfl rfl ?_
  refine j_iload_n K 1 dX6_reporterAt_16 rfl rfl ?_
  refine jIald K (a) dX6_reporterAt_17 rfl rfl hx (by omega) ?_
  refine j_iconst K 1 dX6_reporterAt_18 rfl ?_
  refine j_isub K dX6_reporterAt_19 ?_
  refine j_cS3r K dX6_reporterAt_20 m_X6_isWithin s_X6_isWithin k_X6_89 (c_MW0 _ _ _ (fun q => hy ((okP_in (n := c0) hR.2.1 hR.1).mpr q))) (Nat.le_of_ble_eq_true rfl) ⟨by decide, by decide⟩ (by decide) (by decide) ?_
  refine j_if_eq K 40 dX6_reporterAt_23 (by decide) (fun h_23 => ?_) (fun h_23 => absurd (by decide) h_23)
  refine j_aload_n K 0 dX6_reporterAt_40 rfl rfl ?_
  refine j_iconst K 2 dX6_reporterAt_41 rfl ?_
  refine j_cV1r K dX6_reporterAt_42 m_X6_fail v_X6_fail k_X6_98 rfl ⟨by decide, rfl⟩ rfl (c_MF _) (Nat.le_of_ble_eq_true rfl) ⟨by decide, by decide⟩ (by decide) (by decide) ?_
  refine j_iret K dX6_reporterAt_45 ?_
  exact ⟨rfl, rfl⟩
set_option maxRecDepth 20000 in
set_option maxHeartbeats 400000 in
theorem c_M_reporterAt {l : Launch} {D : va_G} {ca : Nat → ClassId} {q0 : Nat} {sa : Nat → Nat} {ad : jAd} {z n a c0 j : Nat} {V : jV} (x y : Int32) (hI : n ≤ 6 ∧ V 20 0 1 = nI n) (ha : a < n) (hx : x = nI a) (hR : YR V a c0) (hj : j < c0) (hy : y = nI j)  : jMet l D ca q0 sa ad yX6_reporterAt cX6_reporterAt 3 (some .int) 3 0 0 [.ref (ad 20 0), .int x, .int y] (jS z n V) (jRet (some (.int (V 31 0 (6 * a + j)))) (jS z n (thr V 0))) := by
  refine j_enter RX6 [some (.ref (ad 20 0)), some (.int x), some (.int y)] rfl (by decide) (by simp [Value.category]) (Nat.le_of_ble_eq_true rfl) rfl ?_
  intro p e s m args below meth c K hnm hX
  have hn6 := hI.1
  have hp := hI.2
  have hc6 := hR.2.1
  refine j_aload_n K 0 dX6_reporterAt_0 rfl rfl ?_
  refine j_iload_n K 1 dX6_reporterAt_1 rfl rfl ?_
  refine j_cV1r K dX6_reporterAt_2 m_X6_isPier v_X6_isPier k_X6_125 rfl ⟨by decide, rfl⟩ rfl (c_MP _ hI ⟨a, ha, hx⟩) (Nat.le_of_ble_eq_true rfl) ⟨by decide, by decide⟩ (by decide) (by decide) ?_
  refine j_if_ne K 10 dX6_reporterAt_5 (by decide) (fun h_5 => ?_) (fun h_5 => absurd h_5 (by decide))
  refine j_iload_n K 2 dX6_reporterAt_10 rfl rfl ?_
  refine j_iconst K 0 dX6_reporterAt_11 rfl ?_
  refine j_aload_n K 0 dX6_reporterAt_12 rfl rfl ?_
  refine jGr K 30 0 dX6_reporterAt_13 f_X6_28 rfl rfl rfl rfl ?_
  refine j_iload_n K 1 dX6_reporterAt_16 rfl rfl ?_
  refine jIald K (a) dX6_reporterAt_17 rfl rfl hx (by omega) ?_
  refine j_iconst K 1 dX6_reporterAt_18 rfl ?_
  refine j_isub K dX6_reporterAt_19 ?_
  refine j_cS3r K dX6_reporterAt_20 m_X6_isWithin s_X6_isWithin k_X6_89 (c_MW _ _ _ ((okP_in (n := c0) hR.2.1 hR.1).mp ⟨j, hj, hy⟩)) (Nat.le_of_ble_eq_true rfl) ⟨by decide, by decide⟩ (by decide) (by decide) ?_
  refine j_if_eq K 40 dX6_reporterAt_23 (by decide) (fun h_23 => absurd h_23 (by decide)) (fun h_23 => ?_)
  refine j_aload_n K 0 dX6_reporterAt_26 rfl rfl ?_
  refine jGr K 31 0 dX6_reporterAt_27 f_X6_31 rfl rfl rfl rfl ?_
  refine j_bipush K 6 dX6_reporterAt_30 rfl ?_
  refine j_iload_n K 1 dX6_reporterAt_32 rfl rfl ?_
  refine j_imul K dX6_reporterAt_33 ?_
  refine j_iload_n K 2 dX6_reporterAt_34 rfl rfl ?_
  refine j_iadd K dX6_reporterAt_35 ?_
  refine jIald K (((6 * a) + j)) dX6_reporterAt_36 rfl rfl (jx_add (jx_mul rfl hx) hy) (by omega) ?_
  refine j_goto K 45 dX6_reporterAt_37 (by decide) ?_
  refine j_iret K dX6_reporterAt_45 ?_
  exact ⟨rfl, rfl⟩
set_option maxRecDepth 20000 in
set_option maxHeartbeats 400000 in
theorem c_Mofr32x1 {l : Launch} {D : va_G} {ca : Nat → ClassId} {q0 : Nat} {sa : Nat → Nat} {ad : jAd} {z n : Nat} {V : jV} (w x : Int32) (hI : n ≤ 6 ∧ V 20 0 1 = nI n) (hf : ¬ okP 6 w)  : jMet l D ca q0 sa ad yX6_ofReport cX6_ofReport 5 (some .int) 2 0 0 [.ref (ad 20 0), .ref (ad 32 0), .int w, .int x] (jS z n V) (jRet (some (.int 0)) (jS z n (thr V 1))) := by
  refine j_enter RX6 [some (.ref (ad 20 0)), some (.ref (ad 32 0)), some (.int w), some (.int x), none] rfl (by decide) (by simp [Value.category]) (Nat.le_of_ble_eq_true rfl) rfl ?_
  intro p e s m args below meth c K hnm hX
  have hn6 := hI.1
  have hp := hI.2
  refine j_aload_n K 0 dX6_ofReport_0 rfl rfl ?_
  refine j_iload_n K 2 dX6_ofReport_1 rfl rfl ?_
  refine j_iload_n K 3 dX6_ofReport_2 rfl rfl ?_
  refine j_cV2r K dX6_ofReport_3 m_X6_isPair v_X6_isPair k_X6_150 rfl ⟨by decide, rfl⟩ rfl (c_Mpair0 _ _ hI hf) (Nat.le_of_ble_eq_true rfl) ⟨by decide, by decide⟩ (by decide) (by decide) ?_
  refine j_if_ne K 11 dX6_ofReport_6 (by decide) (fun h_6 => absurd (by decide) h_6) (fun h_6 => ?_)
  refine j_iconst K 0 dX6_ofReport_9 rfl ?_
  refine j_iret K dX6_ofReport_10 ?_
  exact ⟨rfl, rfl⟩
set_option maxRecDepth 20000 in
set_option maxHeartbeats 400000 in
theorem c_M_reportedMinutesx1 {l : Launch} {D : va_G} {ca : Nat → ClassId} {q0 : Nat} {sa : Nat → Nat} {ad : jAd} {z n : Nat} {V : jV} (w x : Int32) (hI : n ≤ 6 ∧ V 20 0 1 = nI n) (hf : ¬ okP 6 w)  : jMet l D ca q0 sa ad yX6_reportedMinutes cX6_reportedMinutes 3 (some .int) 3 0 0 [.ref (ad 20 0), .int w, .int x] (jS z n V) (jRet (some (.int 0)) (jS z n (thr V 1))) := by
  refine j_enter RX6 [some (.ref (ad 20 0)), some (.int w), some (.int x)] rfl (by decide) (by simp [Value.category]) (Nat.le_of_ble_eq_true rfl) rfl ?_
  intro p e s m args below meth c K hnm hX
  refine j_aload_n K 0 dX6_reportedMinutes_0 rfl rfl ?_
  refine j_aload_n K 0 dX6_reportedMinutes_1 rfl rfl ?_
  refine jGr K 32 0 dX6_reportedMinutes_2 f_X6_34 rfl rfl rfl rfl ?_
  refine j_iload_n K 1 dX6_reportedMinutes_5 rfl rfl ?_
  refine j_iload_n K 2 dX6_reportedMinutes_6 rfl rfl ?_
  refine j_cV3r K dX6_reportedMinutes_7 m_X6_ofReport v_X6_ofReport k_X6_163 rfl ⟨by decide, rfl⟩ rfl (c_Mofr32x1 _ _ hI hf) (Nat.le_of_ble_eq_true rfl) ⟨by decide, by decide⟩ (by decide) (by decide) ?_
  refine j_iret K dX6_reportedMinutes_10 ?_
  exact ⟨rfl, rfl⟩
set_option maxRecDepth 20000 in
set_option maxHeartbeats 400000 in
theorem c_Mofr32x2 {l : Launch} {D : va_G} {ca : Nat → ClassId} {q0 : Nat} {sa : Nat → Nat} {ad : jAd} {z n : Nat} {V : jV} (w x : Int32) (hI : n ≤ 6 ∧ V 20 0 1 = nI n) (hf : okP 6 w) (h : ¬ okP n x)  : jMet l D ca q0 sa ad yX6_ofReport cX6_ofReport 5 (some .int) 2 0 0 [.ref (ad 20 0), .ref (ad 32 0), .int w, .int x] (jS z n V) (jRet (some (.int 0)) (jS z n (thr V 1))) := by
  refine j_enter RX6 [some (.ref (ad 20 0)), some (.ref (ad 32 0)), some (.int w), some (.int x), none] rfl (by decide) (by simp [Value.category]) (Nat.le_of_ble_eq_true rfl) rfl ?_
  intro p e s m args below meth c K hnm hX
  have hn6 := hI.1
  have hp := hI.2
  refine j_aload_n K 0 dX6_ofReport_0 rfl rfl ?_
  refine j_iload_n K 2 dX6_ofReport_1 rfl rfl ?_
  refine j_iload_n K 3 dX6_ofReport_2 rfl rfl ?_
  refine j_cV2r K dX6_ofReport_3 m_X6_isPair v_X6_isPair k_X6_150 rfl ⟨by decide, rfl⟩ rfl (c_Mpair1 _ _ hI hf h) (Nat.le_of_ble_eq_true rfl) ⟨by decide, by decide⟩ (by decide) (by decide) ?_
  refine j_if_ne K 11 dX6_ofReport_6 (by decide) (fun h_6 => absurd (by decide) h_6) (fun h_6 => ?_)
  refine j_iconst K 0 dX6_ofReport_9 rfl ?_
  refine j_iret K dX6_ofReport_10 ?_
  exact ⟨rfl, rfl⟩
set_option maxRecDepth 20000 in
set_option maxHeartbeats 400000 in
theorem c_M_reportedMinutesx2 {l : Launch} {D : va_G} {ca : Nat → ClassId} {q0 : Nat} {sa : Nat → Nat} {ad : jAd} {z n : Nat} {V : jV} (w x : Int32) (hI : n ≤ 6 ∧ V 20 0 1 = nI n) (hf : okP 6 w) (h : ¬ okP n x)  : jMet l D ca q0 sa ad yX6_reportedMinutes cX6_reportedMinutes 3 (some .int) 3 0 0 [.ref (ad 20 0), .int w, .int x] (jS z n V) (jRet (some (.int 0)) (jS z n (thr V 1))) := by
  refine j_enter RX6 [some (.ref (ad 20 0)), some (.int w), some (.int x)] rfl (by decide) (by simp [Value.category]) (Nat.le_of_ble_eq_true rfl) rfl ?_
  intro p e s m args below meth c K hnm hX
  refine j_aload_n K 0 dX6_reportedMinutes_0 rfl rfl ?_
  refine j_aload_n K 0 dX6_reportedMinutes_1 rfl rfl ?_
  refine jGr K 32 0 dX6_reportedMinutes_2 f_X6_34 rfl rfl rfl rfl ?_
  refine j_iload_n K 1 dX6_reportedMinutes_5 rfl rfl ?_
  refine j_iload_n K 2 dX6_reportedMinutes_6 rfl rfl ?_
  refine j_cV3r K dX6_reportedMinutes_7 m_X6_ofReport v_X6_ofReport k_X6_163 rfl ⟨by decide, rfl⟩ rfl (c_Mofr32x2 _ _ hI hf h) (Nat.le_of_ble_eq_true rfl) ⟨by decide, by decide⟩ (by decide) (by decide) ?_
  refine j_iret K dX6_reportedMinutes_10 ?_
  exact ⟨rfl, rfl⟩
set_option maxRecDepth 20000 in
set_option maxHeartbeats 400000 in
theorem c_Mofr32x3 {l : Launch} {D : va_G} {ca : Nat → ClassId} {q0 : Nat} {sa : Nat → Nat} {ad : jAd} {z n a c0 : Nat} {V : jV} (w x : Int32) (hI : n ≤ 6 ∧ V 20 0 1 = nI n) (hf : okP 6 w) (ha : a < n) (hx : x = nI a) (hR : YR V a c0) (h0 : fres (fun j => decide (V 31 0 (6 * a + j) = w)) c0 = -1)  : jMet l D ca q0 sa ad yX6_ofReport cX6_ofReport 5 (some .int) 2 0 0 [.ref (ad 20 0), .ref (ad 32 0), .int w, .int x] (jS z n V) (jRet (some (.int 0)) (jS z n (thr (thr V 0) 2))) := by
  refine j_enter RX6 [some (.ref (ad 20 0)), some (.ref (ad 32 0)), some (.int w), some (.int x), none] rfl (by decide) (by simp [Value.category]) (Nat.le_of_ble_eq_true rfl) rfl ?_
  intro p e s m args below meth c K hnm hX
  have hn6 := hI.1
  have hp := hI.2
  refine j_aload_n K 0 dX6_ofReport_0 rfl rfl ?_
  refine j_iload_n K 2 dX6_ofReport_1 rfl rfl ?_
  refine j_iload_n K 3 dX6_ofReport_2 rfl rfl ?_
  refine j_cV2r K dX6_ofReport_3 m_X6_isPair v_X6_isPair k_X6_150 rfl ⟨by decide, rfl⟩ rfl (c_Mpair _ _ hI hf ⟨a, ha, hx⟩) (Nat.le_of_ble_eq_true rfl) ⟨by decide, by decide⟩ (by decide) (by decide) ?_
  refine j_if_ne K 11 dX6_ofReport_6 (by decide) (fun h_6 => ?_) (fun h_6 => absurd h_6 (by decide))
  refine j_aload_n K 0 dX6_ofReport_11 rfl rfl ?_
  refine j_iload_n K 2 dX6_ofReport_12 rfl rfl ?_
  refine j_iload_n K 3 dX6_ofReport_13 rfl rfl ?_
  refine j_cV2r K dX6_ofReport_14 m_X6_placeOf v_X6_placeOf k_X6_154 rfl ⟨by decide, rfl⟩ rfl (c_Mplace (V := thr V 0) _ _ hn6 ha hx hR) (Nat.le_of_ble_eq_true rfl) ⟨by decide, by decide⟩ (by decide) (by decide) ?_
  refine j_istore K dX6_ofReport_17 (by decide) ?_
  refine j_iload K dX6_ofReport_19 rfl ?_
  refine j_iconst K (-1) dX6_ofReport_21 rfl ?_
  refine j_icmp_ne K 33 dX6_ofReport_22 (by decide) (fun h_22 => ?_) (fun h_22 => ?_)
  · exact absurd h0 h_22
  · refine j_aload_n K 0 dX6_ofReport_25 rfl rfl ?_
    refine j_iconst K 2 dX6_ofReport_26 rfl ?_
    refine j_cV1r K dX6_ofReport_27 m_X6_fail v_X6_fail k_X6_98 rfl ⟨by decide, rfl⟩ rfl (c_MF _) (Nat.le_of_ble_eq_true rfl) ⟨by decide, by decide⟩ (by decide) (by decide) ?_
    refine j_goto K 42 dX6_ofReport_30 (by decide) ?_
    refine j_iret K dX6_ofReport_42 ?_
    exact ⟨rfl, rfl⟩
set_option maxRecDepth 20000 in
set_option maxHeartbeats 400000 in
theorem c_M_reportedMinutesx3 {l : Launch} {D : va_G} {ca : Nat → ClassId} {q0 : Nat} {sa : Nat → Nat} {ad : jAd} {z n a c0 : Nat} {V : jV} (w x : Int32) (hI : n ≤ 6 ∧ V 20 0 1 = nI n) (hf : okP 6 w) (ha : a < n) (hx : x = nI a) (hR : YR V a c0) (h0 : fres (fun j => decide (V 31 0 (6 * a + j) = w)) c0 = -1)  : jMet l D ca q0 sa ad yX6_reportedMinutes cX6_reportedMinutes 3 (some .int) 3 0 0 [.ref (ad 20 0), .int w, .int x] (jS z n V) (jRet (some (.int 0)) (jS z n (thr (thr V 0) 2))) := by
  refine j_enter RX6 [some (.ref (ad 20 0)), some (.int w), some (.int x)] rfl (by decide) (by simp [Value.category]) (Nat.le_of_ble_eq_true rfl) rfl ?_
  intro p e s m args below meth c K hnm hX
  refine j_aload_n K 0 dX6_reportedMinutes_0 rfl rfl ?_
  refine j_aload_n K 0 dX6_reportedMinutes_1 rfl rfl ?_
  refine jGr K 32 0 dX6_reportedMinutes_2 f_X6_34 rfl rfl rfl rfl ?_
  refine j_iload_n K 1 dX6_reportedMinutes_5 rfl rfl ?_
  refine j_iload_n K 2 dX6_reportedMinutes_6 rfl rfl ?_
  refine j_cV3r K dX6_reportedMinutes_7 m_X6_ofReport v_X6_ofReport k_X6_163 rfl ⟨by decide, rfl⟩ rfl (c_Mofr32x3 _ _ hI hf ha hx hR h0) (Nat.le_of_ble_eq_true rfl) ⟨by decide, by decide⟩ (by decide) (by decide) ?_
  refine j_iret K dX6_reportedMinutes_10 ?_
  exact ⟨rfl, rfl⟩
set_option maxRecDepth 20000 in
set_option maxHeartbeats 400000 in
theorem c_Mofr32 {l : Launch} {D : va_G} {ca : Nat → ClassId} {q0 : Nat} {sa : Nat → Nat} {ad : jAd} {z n a c0 q : Nat} {V : jV} (w x : Int32) (hI : n ≤ 6 ∧ V 20 0 1 = nI n) (hf : okP 6 w) (ha : a < n) (hx : x = nI a) (hR : YR V a c0) (hq6 : q < 6) (h0 : fres (fun j => decide (V 31 0 (6 * a + j) = w)) c0 = nI q)  : jMet l D ca q0 sa ad yX6_ofReport cX6_ofReport 5 (some .int) 2 0 0 [.ref (ad 20 0), .ref (ad 32 0), .int w, .int x] (jS z n V) (jRet (some (.int (V 32 0 (6 * a + q)))) (jS z n (thr V 0))) := by
  refine j_enter RX6 [some (.ref (ad 20 0)), some (.ref (ad 32 0)), some (.int w), some (.int x), none] rfl (by decide) (by simp [Value.category]) (Nat.le_of_ble_eq_true rfl) rfl ?_
  intro p e s m args below meth c K hnm hX
  have hn6 := hI.1
  have hp := hI.2
  refine j_aload_n K 0 dX6_ofReport_0 rfl rfl ?_
  refine j_iload_n K 2 dX6_ofReport_1 rfl rfl ?_
  refine j_iload_n K 3 dX6_ofReport_2 rfl rfl ?_
  refine j_cV2r K dX6_ofReport_3 m_X6_isPair v_X6_isPair k_X6_150 rfl ⟨by decide, rfl⟩ rfl (c_Mpair _ _ hI hf ⟨a, ha, hx⟩) (Nat.le_of_ble_eq_true rfl) ⟨by decide, by decide⟩ (by decide) (by decide) ?_
  refine j_if_ne K 11 dX6_ofReport_6 (by decide) (fun h_6 => ?_) (fun h_6 => absurd h_6 (by decide))
  refine j_aload_n K 0 dX6_ofReport_11 rfl rfl ?_
  refine j_iload_n K 2 dX6_ofReport_12 rfl rfl ?_
  refine j_iload_n K 3 dX6_ofReport_13 rfl rfl ?_
  refine j_cV2r K dX6_ofReport_14 m_X6_placeOf v_X6_placeOf k_X6_154 rfl ⟨by decide, rfl⟩ rfl (c_Mplace (V := thr V 0) _ _ hn6 ha hx hR) (Nat.le_of_ble_eq_true rfl) ⟨by decide, by decide⟩ (by decide) (by decide) ?_
  refine j_istore K dX6_ofReport_17 (by decide) ?_
  refine j_iload K dX6_ofReport_19 rfl ?_
  refine j_iconst K (-1) dX6_ofReport_21 rfl ?_
  refine j_icmp_ne K 33 dX6_ofReport_22 (by decide) (fun h_22 => ?_) (fun h_22 => ?_)
  · refine j_aload_n K 1 dX6_ofReport_33 rfl rfl ?_
    refine j_bipush K 6 dX6_ofReport_34 rfl ?_
    refine j_iload_n K 3 dX6_ofReport_36 rfl rfl ?_
    refine j_imul K dX6_ofReport_37 ?_
    refine j_iload K dX6_ofReport_38 rfl ?_
    refine j_iadd K dX6_ofReport_40 ?_
    refine jIald K (((6 * a) + q)) dX6_ofReport_41 rfl rfl (jx_add (jx_mul rfl hx) h0) (by omega) ?_
    refine j_iret K dX6_ofReport_42 ?_
    exact ⟨rfl, rfl⟩
  · exact absurd h_22 (by rw [show fres (fun j => decide (thr V 0 31 0 (6 * a + j) = w)) c0 = nI q from h0]; exact nI_neg1 (by omega))
set_option maxRecDepth 20000 in
set_option maxHeartbeats 400000 in
theorem c_M_reportedMinutes {l : Launch} {D : va_G} {ca : Nat → ClassId} {q0 : Nat} {sa : Nat → Nat} {ad : jAd} {z n a c0 q : Nat} {V : jV} (w x : Int32) (hI : n ≤ 6 ∧ V 20 0 1 = nI n) (hf : okP 6 w) (ha : a < n) (hx : x = nI a) (hR : YR V a c0) (hq6 : q < 6) (h0 : fres (fun j => decide (V 31 0 (6 * a + j) = w)) c0 = nI q)  : jMet l D ca q0 sa ad yX6_reportedMinutes cX6_reportedMinutes 3 (some .int) 3 0 0 [.ref (ad 20 0), .int w, .int x] (jS z n V) (jRet (some (.int (V 32 0 (6 * a + q)))) (jS z n (thr V 0))) := by
  refine j_enter RX6 [some (.ref (ad 20 0)), some (.int w), some (.int x)] rfl (by decide) (by simp [Value.category]) (Nat.le_of_ble_eq_true rfl) rfl ?_
  intro p e s m args below meth c K hnm hX
  refine j_aload_n K 0 dX6_reportedMinutes_0 rfl rfl ?_
  refine j_aload_n K 0 dX6_reportedMinutes_1 rfl rfl ?_
  refine jGr K 32 0 dX6_reportedMinutes_2 f_X6_34 rfl rfl rfl rfl ?_
  refine j_iload_n K 1 dX6_reportedMinutes_5 rfl rfl ?_
  refine j_iload_n K 2 dX6_reportedMinutes_6 rfl rfl ?_
  refine j_cV3r K dX6_reportedMinutes_7 m_X6_ofReport v_X6_ofReport k_X6_163 rfl ⟨by decide, rfl⟩ rfl (c_Mofr32 _ _ hI hf ha hx hR hq6 h0) (Nat.le_of_ble_eq_true rfl) ⟨by decide, by decide⟩ (by decide) (by decide) ?_
  refine j_iret K dX6_reportedMinutes_10 ?_
  exact ⟨rfl, rfl⟩
set_option maxRecDepth 20000 in
set_option maxHeartbeats 400000 in
theorem c_Mofr33x1 {l : Launch} {D : va_G} {ca : Nat → ClassId} {q0 : Nat} {sa : Nat → Nat} {ad : jAd} {z n : Nat} {V : jV} (w x : Int32) (hI : n ≤ 6 ∧ V 20 0 1 = nI n) (hf : ¬ okP 6 w)  : jMet l D ca q0 sa ad yX6_ofReport cX6_ofReport 5 (some .int) 2 0 0 [.ref (ad 20 0), .ref (ad 33 0), .int w, .int x] (jS z n V) (jRet (some (.int 0)) (jS z n (thr V 1))) := by
  refine j_enter RX6 [some (.ref (ad 20 0)), some (.ref (ad 33 0)), some (.int w), some (.int x), none] rfl (by decide) (by simp [Value.category]) (Nat.le_of_ble_eq_true rfl) rfl ?_
  intro p e s m args below meth c K hnm hX
  have hn6 := hI.1
  have hp := hI.2
  refine j_aload_n K 0 dX6_ofReport_0 rfl rfl ?_
  refine j_iload_n K 2 dX6_ofReport_1 rfl rfl ?_
  refine j_iload_n K 3 dX6_ofReport_2 rfl rfl ?_
  refine j_cV2r K dX6_ofReport_3 m_X6_isPair v_X6_isPair k_X6_150 rfl ⟨by decide, rfl⟩ rfl (c_Mpair0 _ _ hI hf) (Nat.le_of_ble_eq_true rfl) ⟨by decide, by decide⟩ (by decide) (by decide) ?_
  refine j_if_ne K 11 dX6_ofReport_6 (by decide) (fun h_6 => absurd (by decide) h_6) (fun h_6 => ?_)
  refine j_iconst K 0 dX6_ofReport_9 rfl ?_
  refine j_iret K dX6_ofReport_10 ?_
  exact ⟨rfl, rfl⟩
set_option maxRecDepth 20000 in
set_option maxHeartbeats 400000 in
theorem c_M_reportAgex1 {l : Launch} {D : va_G} {ca : Nat → ClassId} {q0 : Nat} {sa : Nat → Nat} {ad : jAd} {z n : Nat} {V : jV} (w x : Int32) (hI : n ≤ 6 ∧ V 20 0 1 = nI n) (hf : ¬ okP 6 w)  : jMet l D ca q0 sa ad yX6_reportAge cX6_reportAge 3 (some .int) 3 0 0 [.ref (ad 20 0), .int w, .int x] (jS z n V) (jRet (some (.int 0)) (jS z n (thr V 1))) := by
  refine j_enter RX6 [some (.ref (ad 20 0)), some (.int w), some (.int x)] rfl (by decide) (by simp [Value.category]) (Nat.le_of_ble_eq_true rfl) rfl ?_
  intro p e s m args below meth c K hnm hX
  refine j_aload_n K 0 dX6_reportAge_0 rfl rfl ?_
  refine j_aload_n K 0 dX6_reportAge_1 rfl rfl ?_
  refine jGr K 33 0 dX6_reportAge_2 f_X6_37 rfl rfl rfl rfl ?_
  refine j_iload_n K 1 dX6_reportAge_5 rfl rfl ?_
  refine j_iload_n K 2 dX6_reportAge_6 rfl rfl ?_
  refine j_cV3r K dX6_reportAge_7 m_X6_ofReport v_X6_ofReport k_X6_163 rfl ⟨by decide, rfl⟩ rfl (c_Mofr33x1 _ _ hI hf) (Nat.le_of_ble_eq_true rfl) ⟨by decide, by decide⟩ (by decide) (by decide) ?_
  refine j_iret K dX6_reportAge_10 ?_
  exact ⟨rfl, rfl⟩
set_option maxRecDepth 20000 in
set_option maxHeartbeats 400000 in
theorem c_Mofr33x2 {l : Launch} {D : va_G} {ca : Nat → ClassId} {q0 : Nat} {sa : Nat → Nat} {ad : jAd} {z n : Nat} {V : jV} (w x : Int32) (hI : n ≤ 6 ∧ V 20 0 1 = nI n) (hf : okP 6 w) (h : ¬ okP n x)  : jMet l D ca q0 sa ad yX6_ofReport cX6_ofReport 5 (some .int) 2 0 0 [.ref (ad 20 0), .ref (ad 33 0), .int w, .int x] (jS z n V) (jRet (some (.int 0)) (jS z n (thr V 1))) := by
  refine j_enter RX6 [some (.ref (ad 20 0)), some (.ref (ad 33 0)), some (.int w), some (.int x), none] rfl (by decide) (by simp [Value.category]) (Nat.le_of_ble_eq_true rfl) rfl ?_
  intro p e s m args below meth c K hnm hX
  have hn6 := hI.1
  have hp := hI.2
  refine j_aload_n K 0 dX6_ofReport_0 rfl rfl ?_
  refine j_iload_n K 2 dX6_ofReport_1 rfl rfl ?_
  refine j_iload_n K 3 dX6_ofReport_2 rfl rfl ?_
  refine j_cV2r K dX6_ofReport_3 m_X6_isPair v_X6_isPair k_X6_150 rfl ⟨by decide, rfl⟩ rfl (c_Mpair1 _ _ hI hf h) (Nat.le_of_ble_eq_true rfl) ⟨by decide, by decide⟩ (by decide) (by decide) ?_
  refine j_if_ne K 11 dX6_ofReport_6 (by decide) (fun h_6 => absurd (by decide) h_6) (fun h_6 => ?_)
  refine j_iconst K 0 dX6_ofReport_9 rfl ?_
  refine j_iret K dX6_ofReport_10 ?_
  exact ⟨rfl, rfl⟩
set_option maxRecDepth 20000 in
set_option maxHeartbeats 400000 in
theorem c_M_reportAgex2 {l : Launch} {D : va_G} {ca : Nat → ClassId} {q0 : Nat} {sa : Nat → Nat} {ad : jAd} {z n : Nat} {V : jV} (w x : Int32) (hI : n ≤ 6 ∧ V 20 0 1 = nI n) (hf : okP 6 w) (h : ¬ okP n x)  : jMet l D ca q0 sa ad yX6_reportAge cX6_reportAge 3 (some .int) 3 0 0 [.ref (ad 20 0), .int w, .int x] (jS z n V) (jRet (some (.int 0)) (jS z n (thr V 1))) := by
  refine j_enter RX6 [some (.ref (ad 20 0)), some (.int w), some (.int x)] rfl (by decide) (by simp [Value.category]) (Nat.le_of_ble_eq_true rfl) rfl ?_
  intro p e s m args below meth c K hnm hX
  refine j_aload_n K 0 dX6_reportAge_0 rfl rfl ?_
  refine j_aload_n K 0 dX6_reportAge_1 rfl rfl ?_
  refine jGr K 33 0 dX6_reportAge_2 f_X6_37 rfl rfl rfl rfl ?_
  refine j_iload_n K 1 dX6_reportAge_5 rfl rfl ?_
  refine j_iload_n K 2 dX6_reportAge_6 rfl rfl ?_
  refine j_cV3r K dX6_reportAge_7 m_X6_ofReport v_X6_ofReport k_X6_163 rfl ⟨by decide, rfl⟩ rfl (c_Mofr33x2 _ _ hI hf h) (Nat.le_of_ble_eq_true rfl) ⟨by decide, by decide⟩ (by decide) (by decide) ?_
  refine j_iret K dX6_reportAge_10 ?_
  exact ⟨rfl, rfl⟩
set_option maxRecDepth 20000 in
set_option maxHeartbeats 400000 in
theorem c_Mofr33x3 {l : Launch} {D : va_G} {ca : Nat → ClassId} {q0 : Nat} {sa : Nat → Nat} {ad : jAd} {z n a c0 : Nat} {V : jV} (w x : Int32) (hI : n ≤ 6 ∧ V 20 0 1 = nI n) (hf : okP 6 w) (ha : a < n) (hx : x = nI a) (hR : YR V a c0) (h0 : fres (fun j => decide (V 31 0 (6 * a + j) = w)) c0 = -1)  : jMet l D ca q0 sa ad yX6_ofReport cX6_ofReport 5 (some .int) 2 0 0 [.ref (ad 20 0), .ref (ad 33 0), .int w, .int x] (jS z n V) (jRet (some (.int 0)) (jS z n (thr (thr V 0) 2))) := by
  refine j_enter RX6 [some (.ref (ad 20 0)), some (.ref (ad 33 0)), some (.int w), some (.int x), none] rfl (by decide) (by simp [Value.category]) (Nat.le_of_ble_eq_true rfl) rfl ?_
  intro p e s m args below meth c K hnm hX
  have hn6 := hI.1
  have hp := hI.2
  refine j_aload_n K 0 dX6_ofReport_0 rfl rfl ?_
  refine j_iload_n K 2 dX6_ofReport_1 rfl rfl ?_
  refine j_iload_n K 3 dX6_ofReport_2 rfl rfl ?_
  refine j_cV2r K dX6_ofReport_3 m_X6_isPair v_X6_isPair k_X6_150 rfl ⟨by decide, rfl⟩ rfl (c_Mpair _ _ hI hf ⟨a, ha, hx⟩) (Nat.le_of_ble_eq_true rfl) ⟨by decide, by decide⟩ (by decide) (by decide) ?_
  refine j_if_ne K 11 dX6_ofReport_6 (by decide) (fun h_6 => ?_) (fun h_6 => absurd h_6 (by decide))
  refine j_aload_n K 0 dX6_ofReport_11 rfl rfl ?_
  refine j_iload_n K 2 dX6_ofReport_12 rfl rfl ?_
  refine j_iload_n K 3 dX6_ofReport_13 rfl rfl ?_
  refine j_cV2r K dX6_ofReport_14 m_X6_placeOf v_X6_placeOf k_X6_154 rfl ⟨by decide, rfl⟩ rfl (c_Mplace (V := thr V 0) _ _ hn6 ha hx hR) (Nat.le_of_ble_eq_true rfl) ⟨by decide, by decide⟩ (by decide) (by decide) ?_
  refine j_istore K dX6_ofReport_17 (by decide) ?_
  refine j_iload K dX6_ofReport_19 rfl ?_
  refine j_iconst K (-1) dX6_ofReport_21 rfl ?_
  refine j_icmp_ne K 33 dX6_ofReport_22 (by decide) (fun h_22 => ?_) (fun h_22 => ?_)
  · exact absurd h0 h_22
  · refine j_aload_n K 0 dX6_ofReport_25 rfl rfl ?_
    refine j_iconst K 2 dX6_ofReport_26 rfl ?_
    refine j_cV1r K dX6_ofReport_27 m_X6_fail v_X6_fail k_X6_98 rfl ⟨by decide, rfl⟩ rfl (c_MF _) (Nat.le_of_ble_eq_true rfl) ⟨by decide, by decide⟩ (by decide) (by decide) ?_
    refine j_goto K 42 dX6_ofReport_30 (by decide) ?_
    refine j_iret K dX6_ofReport_42 ?_
    exact ⟨rfl, rfl⟩
set_option maxRecDepth 20000 in
set_option maxHeartbeats 400000 in
theorem c_M_reportAgex3 {l : Launch} {D : va_G} {ca : Nat → ClassId} {q0 : Nat} {sa : Nat → Nat} {ad : jAd} {z n a c0 : Nat} {V : jV} (w x : Int32) (hI : n ≤ 6 ∧ V 20 0 1 = nI n) (hf : okP 6 w) (ha : a < n) (hx : x = nI a) (hR : YR V a c0) (h0 : fres (fun j => decide (V 31 0 (6 * a + j) = w)) c0 = -1)  : jMet l D ca q0 sa ad yX6_reportAge cX6_reportAge 3 (some .int) 3 0 0 [.ref (ad 20 0), .int w, .int x] (jS z n V) (jRet (some (.int 0)) (jS z n (thr (thr V 0) 2))) := by
  refine j_enter RX6 [some (.ref (ad 20 0)), some (.int w), some (.int x)] rfl (by decide) (by simp [Value.category]) (Nat.le_of_ble_eq_true rfl) rfl ?_
  intro p e s m args below meth c K hnm hX
  refine j_aload_n K 0 dX6_reportAge_0 rfl rfl ?_
  refine j_aload_n K 0 dX6_reportAge_1 rfl rfl ?_
  refine jGr K 33 0 dX6_reportAge_2 f_X6_37 rfl rfl rfl rfl ?_
  refine j_iload_n K 1 dX6_reportAge_5 rfl rfl ?_
  refine j_iload_n K 2 dX6_reportAge_6 rfl rfl ?_
  refine j_cV3r K dX6_reportAge_7 m_X6_ofReport v_X6_ofReport k_X6_163 rfl ⟨by decide, rfl⟩ rfl (c_Mofr33x3 _ _ hI hf ha hx hR h0) (Nat.le_of_ble_eq_true rfl) ⟨by decide, by decide⟩ (by decide) (by decide) ?_
  refine j_iret K dX6_reportAge_10 ?_
  exact ⟨rfl, rfl⟩
set_option maxRecDepth 20000 in
set_option maxHeartbeats 400000 in
theorem c_Mofr33 {l : Launch} {D : va_G} {ca : Nat → ClassId} {q0 : Nat} {sa : Nat → Nat} {ad : jAd} {z n a c0 q : Nat} {V : jV} (w x : Int32) (hI : n ≤ 6 ∧ V 20 0 1 = nI n) (hf : okP 6 w) (ha : a < n) (hx : x = nI a) (hR : YR V a c0) (hq6 : q < 6) (h0 : fres (fun j => decide (V 31 0 (6 * a + j) = w)) c0 = nI q)  : jMet l D ca q0 sa ad yX6_ofReport cX6_ofReport 5 (some .int) 2 0 0 [.ref (ad 20 0), .ref (ad 33 0), .int w, .int x] (jS z n V) (jRet (some (.int (V 33 0 (6 * a + q)))) (jS z n (thr V 0))) := by
  refine j_enter RX6 [some (.ref (ad 20 0)), some (.ref (ad 33 0)), some (.int w), some (.int x), none] rfl (by decide) (by simp [Value.category]) (Nat.le_of_ble_eq_true rfl) rfl ?_
  intro p e s m args below meth c K hnm hX
  have hn6 := hI.1
  have hp := hI.2
  refine j_aload_n K 0 dX6_ofReport_0 rfl rfl ?_
  refine j_iload_n K 2 dX6_ofReport_1 rfl rfl ?_
  refine j_iload_n K 3 dX6_ofReport_2 rfl rfl ?_
  refine j_cV2r K dX6_ofReport_3 m_X6_isPair v_X6_isPair k_X6_150 rfl ⟨by decide, rfl⟩ rfl (c_Mpair _ _ hI hf ⟨a, ha, hx⟩) (Nat.le_of_ble_eq_true rfl) ⟨by decide, by decide⟩ (by decide) (by decide) ?_
  refine j_if_ne K 11 dX6_ofReport_6 (by decide) (fun h_6 => ?_) (fun h_6 => absurd h_6 (by decide))
  refine j_aload_n K 0 dX6_ofReport_11 rfl rfl ?_
  refine j_iload_n K 2 dX6_ofReport_12 rfl rfl ?_
  refine j_iload_n K 3 dX6_ofReport_13 rfl rfl ?_
  refine j_cV2r K dX6_ofReport_14 m_X6_placeOf v_X6_placeOf k_X6_154 rfl ⟨by decide, rfl⟩ rfl (c_Mplace (V := thr V 0) _ _ hn6 ha hx hR) (Nat.le_of_ble_eq_true rfl) ⟨by decide, by decide⟩ (by decide) (by decide) ?_
  refine j_istore K dX6_ofReport_17 (by decide) ?_
  refine j_iload K dX6_ofReport_19 rfl ?_
  refine j_iconst K (-1) dX6_ofReport_21 rfl ?_
  refine j_icmp_ne K 33 dX6_ofReport_22 (by decide) (fun h_22 => ?_) (fun h_22 => ?_)
  · refine j_aload_n K 1 dX6_ofReport_33 rfl rfl ?_
    refine j_bipush K 6 dX6_ofReport_34 rfl ?_
    refine j_iload_n K 3 dX6_ofReport_36 rfl rfl ?_
    refine j_imul K dX6_ofReport_37 ?_
    refine j_iload K dX6_ofReport_38 rfl ?_
    refine j_iadd K dX6_ofReport_40 ?_
    refine jIald K (((6 * a) + q)) dX6_ofReport_41 rfl rfl (jx_add (jx_mul rfl hx) h0) (by omega) ?_
    refine j_iret K dX6_ofReport_42 ?_
    exact ⟨rfl, rfl⟩
  · exact absurd h_22 (by rw [show fres (fun j => decide (thr V 0 31 0 (6 * a + j) = w)) c0 = nI q from h0]; exact nI_neg1 (by omega))
set_option maxRecDepth 20000 in
set_option maxHeartbeats 400000 in
theorem c_M_reportAge {l : Launch} {D : va_G} {ca : Nat → ClassId} {q0 : Nat} {sa : Nat → Nat} {ad : jAd} {z n a c0 q : Nat} {V : jV} (w x : Int32) (hI : n ≤ 6 ∧ V 20 0 1 = nI n) (hf : okP 6 w) (ha : a < n) (hx : x = nI a) (hR : YR V a c0) (hq6 : q < 6) (h0 : fres (fun j => decide (V 31 0 (6 * a + j) = w)) c0 = nI q)  : jMet l D ca q0 sa ad yX6_reportAge cX6_reportAge 3 (some .int) 3 0 0 [.ref (ad 20 0), .int w, .int x] (jS z n V) (jRet (some (.int (V 33 0 (6 * a + q)))) (jS z n (thr V 0))) := by
  refine j_enter RX6 [some (.ref (ad 20 0)), some (.int w), some (.int x)] rfl (by decide) (by simp [Value.category]) (Nat.le_of_ble_eq_true rfl) rfl ?_
  intro p e s m args below meth c K hnm hX
  refine j_aload_n K 0 dX6_reportAge_0 rfl rfl ?_
  refine j_aload_n K 0 dX6_reportAge_1 rfl rfl ?_
  refine jGr K 33 0 dX6_reportAge_2 f_X6_37 rfl rfl rfl rfl ?_
  refine j_iload_n K 1 dX6_reportAge_5 rfl rfl ?_
  refine j_iload_n K 2 dX6_reportAge_6 rfl rfl ?_
  refine j_cV3r K dX6_reportAge_7 m_X6_ofReport v_X6_ofReport k_X6_163 rfl ⟨by decide, rfl⟩ rfl (c_Mofr33 _ _ hI hf ha hx hR hq6 h0) (Nat.le_of_ble_eq_true rfl) ⟨by decide, by decide⟩ (by decide) (by decide) ?_
  refine j_iret K dX6_reportAge_10 ?_
  exact ⟨rfl, rfl⟩
set_option maxRecDepth 20000 in
set_option maxHeartbeats 400000 in
theorem c_M_observex1 {l : Launch} {D : va_G} {ca : Nat → ClassId} {q0 : Nat} {sa : Nat → Nat} {ad : jAd} {z n : Nat} {V : jV} (x y : Int32) (hI : n ≤ 6 ∧ V 20 0 1 = nI n) (h : ¬ okP n x)  : jMet l D ca q0 sa ad yX6_observe cX6_observe 7 (some .int) 2 0 0 [.ref (ad 20 0), .int x, .int y] (jS z n V) (jRet (some (.int 0)) (jS z n (thr V 1))) := by
  refine j_enter RX6 [some (.ref (ad 20 0)), some (.int x), some (.int y), none, none, none, none] rfl (by decide) (by simp [Value.category]) (Nat.le_of_ble_eq_true rfl) rfl ?_
  intro p e s m args below meth c K hnm hX
  have hn6 := hI.1
  have hp := hI.2
  refine j_aload_n K 0 dX6_observe_0 rfl rfl ?_
  refine j_iload_n K 1 dX6_observe_1 rfl rfl ?_
  refine j_cV1r K dX6_observe_2 m_X6_isPier v_X6_isPier k_X6_125 rfl ⟨by decide, rfl⟩ rfl (c_MP0 _ hI h) (Nat.le_of_ble_eq_true rfl) ⟨by decide, by decide⟩ (by decide) (by decide) ?_
  refine j_if_ne K 10 dX6_observe_5 (by decide) (fun h_5 => absurd (by decide) h_5) (fun h_5 => ?_)
  refine j_iconst K 0 dX6_observe_8 rfl ?_
  refine j_iret K dX6_observe_9 ?_
  exact ⟨rfl, rfl⟩
set_option maxRecDepth 20000 in
set_option maxHeartbeats 400000 in
theorem c_M_observex2 {l : Launch} {D : va_G} {ca : Nat → ClassId} {q0 : Nat} {sa : Nat → Nat} {ad : jAd} {z n a : Nat} {V : jV} (x y : Int32) (hI : n ≤ 6 ∧ V 20 0 1 = nI n) (ha : a < n) (hx : x = nI a) (hy : ¬ (-60 ≤ y ∧ y ≤ 60))  : jMet l D ca q0 sa ad yX6_observe cX6_observe 7 (some .int) 2 0 0 [.ref (ad 20 0), .int x, .int y] (jS z n V) (jRet (some (.int 0)) (jS z n (thr (thr V 0) 2))) := by
  refine j_enter RX6 [some (.ref (ad 20 0)), some (.int x), some (.int y), none, none, none, none] rfl (by decide) (by simp [Value.category]) (Nat.le_of_ble_eq_true rfl) rfl ?_
  intro p e s m args below meth c K hnm hX
  have hn6 := hI.1
  have hp := hI.2
  refine j_aload_n K 0 dX6_observe_0 rfl rfl ?_
  refine j_iload_n K 1 dX6_observe_1 rfl rfl ?_
  refine j_cV1r K dX6_observe_2 m_X6_isPier v_X6_isPier k_X6_125 rfl ⟨by decide, rfl⟩ rfl (c_MP _ hI ⟨a, ha, hx⟩) (Nat.le_of_ble_eq_true rfl) ⟨by decide, by decide⟩ (by decide) (by decide) ?_
  refine j_if_ne K 10 dX6_observe_5 (by decide) (fun h_5 => ?_) (fun h_5 => absurd h_5 (by decide))
  refine j_iload_n K 2 dX6_observe_10 rfl rfl ?_
  refine j_bipush K (-60) dX6_observe_11 rfl ?_
  refine j_bipush K 60 dX6_observe_13 rfl ?_
  refine j_cS3r K dX6_observe_15 m_X6_isWithin s_X6_isWithin k_X6_89 (c_MW0 _ _ _ hy) (Nat.le_of_ble_eq_true rfl) ⟨by decide, by decide⟩ (by decide) (by decide) ?_
  refine j_if_ne K 27 dX6_observe_18 (by decide) (fun h_18 => absurd (by decide) h_18) (fun h_18 => ?_)
  refine j_aload_n K 0 dX6_observe_21 rfl rfl ?_
  refine j_iconst K 2 dX6_observe_22 rfl ?_
  refine j_cV1r K dX6_observe_23 m_X6_fail v_X6_fail k_X6_98 rfl ⟨by decide, rfl⟩ rfl (c_MF _) (Nat.le_of_ble_eq_true rfl) ⟨by decide, by decide⟩ (by decide) (by decide) ?_
  refine j_iret K dX6_observe_26 ?_
  exact ⟨rfl, rfl⟩
set_option maxRecDepth 20000 in
set_option maxHeartbeats 400000 in
theorem c_M_observe {l : Launch} {D : va_G} {ca : Nat → ClassId} {q0 : Nat} {sa : Nat → Nat} {ad : jAd} {z n a c0 : Nat} {V : jV} (x y : Int32) (hI : n ≤ 6 ∧ V 20 0 1 = nI n) (ha : a < n) (hx : x = nI a) (hR : YR V a c0) (hy : -60 ≤ y ∧ y ≤ 60)  : jMet l D ca q0 sa ad yX6_observe cX6_observe 7 (some .int) 2 0 0 [.ref (ad 20 0), .int x, .int y] (jS z n V) (jRet (some (.int (obY a y c0 (thr V 0) 0).2)) (jS z n (obY a y c0 (thr V 0) 0).1)) := by
  refine j_enter RX6 [some (.ref (ad 20 0)), some (.int x), some (.int y), none, none, none, none] rfl (by decide) (by simp [Value.category]) (Nat.le_of_ble_eq_true rfl) rfl ?_
  intro p e s m args below meth c K hnm hX
  have hn6 := hI.1
  have hp := hI.2
  have lp : ∀ (j : Nat) (U : jV) (v : Int32) (w5 w6 : Option Value) (q : Nat), YR U a q → j ≤ q → obY a y j U v = obY a y c0 (thr V 0) 0 → jW p l e (jRm 2 0 0) s m args below meth c D ca q0 ad 7 (jZ below args s D ca q0 ad 0 0 (jRet (some (.int (obY a y c0 (thr V 0) 0).2)) (jS z n (obY a y c0 (thr V 0) 0).1))) 0 0 39 [some (.ref (ad 20 0)), some (.int x), some (.int y), some (.int v), some (.int (nI j - 1)), w5, w6] [] (jS z n U) := by
    intro j
    induction j with
    | zero =>
      intro U v w5 w6 q hq hjq hE
      refine j_iload K dX6_observe_39 rfl ?_
      refine j_if_lt K 143 dX6_observe_41 (by decide) (fun h_41 => ?_) (fun h_41 => ?_)
      · refine j_iload_n K 3 dX6_observe_143 rfl rfl ?_
        refine j_iret K dX6_observe_144 ?_
        rw [← hE]
        exact ⟨rfl, rfl⟩
      · exact absurd (show nI 0 - 1 < 0 by decide) h_41
    | succ j ih =>
      intro U v w5 w6 q hq hjq hE
      rw [nI_pred]
      have hfj := tn_of (b := 6) (by decide) (hq.2.2 j (by omega))
      have hf2 := hfj.2
      have h6 := hq.2.1
      have hR1 : YR (obY1 U a j y) a q := YR_up hq (by decide) (by decide)
      refine j_iload K dX6_observe_39 rfl ?_
      refine j_if_lt K 143 dX6_observe_41 (by decide) (fun h_41 => ?_) (fun h_41 => ?_)
      · exact absurd h_41 (nI_pos (by omega))
      · refine j_aload_n K 0 dX6_observe_44 rfl rfl ?_
        refine jGr K 32 0 dX6_observe_45 f_X6_34 rfl rfl rfl rfl ?_
        refine j_bipush K 6 dX6_observe_48 rfl ?_
        refine j_iload_n K 1 dX6_observe_50 rfl rfl ?_
        refine j_imul K dX6_observe_51 ?_
        refine j_iload K dX6_observe_52 rfl ?_
        refine j_iadd K dX6_observe_54 ?_
        refine jIald K (((6 * a) + j)) dX6_observe_55 rfl rfl (jx_add (jx_mul rfl hx) rfl) (by omega) ?_
        refine j_iload_n K 2 dX6_observe_56 rfl rfl ?_
        refine j_isub K dX6_observe_57 ?_
        refine j_mabs K dX6_observe_58 k_X6_157 (Nat.le_of_ble_eq_true rfl) ⟨by decide, by decide⟩ ?_
        refine j_istore K dX6_observe_61 (by decide) ?_
        refine j_aload_n K 0 dX6_observe_63 rfl rfl ?_
        refine jGr K 31 0 dX6_observe_64 f_X6_31 rfl rfl rfl rfl ?_
        refine j_bipush K 6 dX6_observe_67 rfl ?_
        refine j_iload_n K 1 dX6_observe_69 rfl rfl ?_
        refine j_imul K dX6_observe_70 ?_
        refine j_iload K dX6_observe_71 rfl ?_
        refine j_iadd K dX6_observe_73 ?_
        refine jIald K (((6 * a) + j)) dX6_observe_74 rfl rfl (jx_add (jx_mul rfl hx) rfl) (by omega) ?_
        refine j_istore K dX6_observe_75 (by decide) ?_
        refine j_aload_n K 0 dX6_observe_77 rfl rfl ?_
        refine jGr K 29 0 dX6_observe_78 f_X6_25 rfl rfl rfl rfl ?_
        refine j_iload K dX6_observe_81 rfl ?_
        refine j_iload K dX6_observe_83 rfl ?_
        refine j_iconst K 5 dX6_observe_85 rfl ?_
        refine j_icmp_gt K 106 dX6_observe_86 (by decide) (fun h_86 => ?_) (fun h_86 => ?_)
        · refine j_iconst K 1 dX6_observe_106 rfl ?_
          refine j_aload_n K 0 dX6_observe_107 rfl rfl ?_
          refine jGr K 29 0 dX6_observe_108 f_X6_25 rfl rfl rfl rfl ?_
          refine j_iload K dX6_observe_111 rfl ?_
          refine jIald K ((tn (U 31 0 (6 * a + j)))) dX6_observe_113 rfl rfl hfj.1 (by omega) ?_
          refine j_iconst K 1 dX6_observe_114 rfl ?_
          refine j_isub K dX6_observe_115 ?_
          refine j_mmax K dX6_observe_116 k_X6_160 (Nat.le_of_ble_eq_true rfl) ⟨by decide, by decide⟩ ?_
          refine jIast K ((tn (U 31 0 (6 * a + j)))) dX6_observe_119 rfl rfl hfj.1 (by omega) ?_
          refine j_eqV (V' := obY1 U a j y) (fun k1 k2 k3 => ?_) ?_
          · unfold obY1 jdY
            first
            | (rw [if_pos (show absI (U 32 0 (6 * a + j) - y) ≤ 5 from Int32.not_lt.mp h_86)])
            | (rw [if_neg (show ¬ absI (U 32 0 (6 * a + j) - y) ≤ 5 from Int32.not_le.mpr h_86)])
          refine j_iload K dX6_observe_120 rfl ?_
          refine j_bipush K 30 dX6_observe_122 rfl ?_
          refine j_icmp_le K 137 dX6_observe_124 (by decide) (fun h_124 => ?_) (fun h_124 => ?_)
          · refine j_iinc (v := nI (j) - 1) K dX6_observe_137 rfl (by decide) (jx_dec _) ?_
            refine j_goto K 39 dX6_observe_140 (by decide) ?_
            first
            | (have h9 : absI (U 32 0 (6 * a + j) - y) ≤ 30 := h_124
               exact ih (obY1 U a j y) v _ _ q hR1 (by omega) (by rw [← hE, obY, if_neg (Int32.not_lt.mpr h9)]))
            | (have h9 : ¬ absI (U 32 0 (6 * a + j) - y) ≤ 30 := h_124
               exact ih (remY (obY1 U a j y) a j) (v + 1) _ _ (q - 1) (YR_rem hR1 (by omega)) (by omega) (by rw [← hE, obY, if_pos (Int32.not_le.mp h9)]))
          · refine j_aload_n K 0 dX6_observe_127 rfl rfl ?_
            refine j_iload_n K 1 dX6_observe_128 rfl rfl ?_
            refine j_iload K dX6_observe_129 rfl ?_
            refine j_cV2n K dX6_observe_131 m_X6_dropReport v_X6_dropReport k_X6_105 rfl ⟨by decide, rfl⟩ rfl (c_Mdrop _ j hn6 ha hx hR1 (by omega)) (Nat.le_of_ble_eq_true rfl) ⟨by decide, by decide⟩ (by decide) (by decide) ?_
            refine j_iinc K dX6_observe_134 rfl (by decide) rfl ?_
            refine j_iinc (v := nI (j) - 1) K dX6_observe_137 rfl (by decide) (jx_dec _) ?_
            refine j_goto K 39 dX6_observe_140 (by decide) ?_
            first
            | (have h9 : absI (U 32 0 (6 * a + j) - y) ≤ 30 := h_124
               exact ih (obY1 U a j y) v _ _ q hR1 (by omega) (by rw [← hE, obY, if_neg (Int32.not_lt.mpr h9)]))
            | (have h9 : ¬ absI (U 32 0 (6 * a + j) - y) ≤ 30 := h_124
               exact ih (remY (obY1 U a j y) a j) (v + 1) _ _ (q - 1) (YR_rem hR1 (by omega)) (by omega) (by rw [← hE, obY, if_pos (Int32.not_le.mp h9)]))
        · refine j_bipush K 9 dX6_observe_89 rfl ?_
          refine j_aload_n K 0 dX6_observe_91 rfl rfl ?_
          refine jGr K 29 0 dX6_observe_92 f_X6_25 rfl rfl rfl rfl ?_
          refine j_iload K dX6_observe_95 rfl ?_
          refine jIald K ((tn (U 31 0 (6 * a + j)))) dX6_observe_97 rfl rfl hfj.1 (by omega) ?_
          refine j_iconst K 1 dX6_observe_98 rfl ?_
          refine j_iadd K dX6_observe_99 ?_
          refine j_mmin K dX6_observe_100 k_X6_115 (Nat.le_of_ble_eq_true rfl) ⟨by decide, by decide⟩ ?_
          refine j_goto K 119 dX6_observe_103 (by decide) ?_
          refine jIast K ((tn (U 31 0 (6 * a + j)))) dX6_observe_119 rfl rfl hfj.1 (by omega) ?_
          refine j_eqV (V' := obY1 U a j y) (fun k1 k2 k3 => ?_) ?_
          · unfold obY1 jdY
            first
            | (rw [if_pos (show absI (U 32 0 (6 * a + j) - y) ≤ 5 from Int32.not_lt.mp h_86)])
            | (rw [if_neg (show ¬ absI (U 32 0 (6 * a + j) - y) ≤ 5 from Int32.not_le.mpr h_86)])
          refine j_iload K dX6_observe_120 rfl ?_
          refine j_bipush K 30 dX6_observe_122 rfl ?_
          refine j_icmp_le K 137 dX6_observe_124 (by decide) (fun h_124 => ?_) (fun h_124 => ?_)
          · refine j_iinc (v := nI (j) - 1) K dX6_observe_137 rfl (by decide) (jx_dec _) ?_
            refine j_goto K 39 dX6_observe_140 (by decide) ?_
            first
            | (have h9 : absI (U 32 0 (6 * a + j) - y) ≤ 30 := h_124
               exact ih (obY1 U a j y) v _ _ q hR1 (by omega) (by rw [← hE, obY, if_neg (Int32.not_lt.mpr h9)]))
            | (have h9 : ¬ absI (U 32 0 (6 * a + j) - y) ≤ 30 := h_124
               exact ih (remY (obY1 U a j y) a j) (v + 1) _ _ (q - 1) (YR_rem hR1 (by omega)) (by omega) (by rw [← hE, obY, if_pos (Int32.not_le.mp h9)]))
          · refine j_aload_n K 0 dX6_observe_127 rfl rfl ?_
            refine j_iload_n K 1 dX6_observe_128 rfl rfl ?_
            refine j_iload K dX6_observe_129 rfl ?_
            refine j_cV2n K dX6_observe_131 m_X6_dropReport v_X6_dropReport k_X6_105 rfl ⟨by decide, rfl⟩ rfl (c_Mdrop _ j hn6 ha hx hR1 (by omega)) (Nat.le_of_ble_eq_true rfl) ⟨by decide, by decide⟩ (by decide) (by decide) ?_
            refine j_iinc K dX6_observe_134 rfl (by decide) rfl ?_
            refine j_iinc (v := nI (j) - 1) K dX6_observe_137 rfl (by decide) (jx_dec _) ?_
            refine j_goto K 39 dX6_observe_140 (by decide) ?_
            first
            | (have h9 : absI (U 32 0 (6 * a + j) - y) ≤ 30 := h_124
               exact ih (obY1 U a j y) v _ _ q hR1 (by omega) (by rw [← hE, obY, if_neg (Int32.not_lt.mpr h9)]))
            | (have h9 : ¬ absI (U 32 0 (6 * a + j) - y) ≤ 30 := h_124
               exact ih (remY (obY1 U a j y) a j) (v + 1) _ _ (q - 1) (YR_rem hR1 (by omega)) (by omega) (by rw [← hE, obY, if_pos (Int32.not_le.mp h9)]))
  refine j_aload_n K 0 dX6_observe_0 rfl rfl ?_
  refine j_iload_n K 1 dX6_observe_1 rfl rfl ?_
  refine j_cV1r K dX6_observe_2 m_X6_isPier v_X6_isPier k_X6_125 rfl ⟨by decide, rfl⟩ rfl (c_MP _ hI ⟨a, ha, hx⟩) (Nat.le_of_ble_eq_true rfl) ⟨by decide, by decide⟩ (by decide) (by decide) ?_
  refine j_if_ne K 10 dX6_observe_5 (by decide) (fun h_5 => ?_) (fun h_5 => absurd h_5 (by decide))
  refine j_iload_n K 2 dX6_observe_10 rfl rfl ?_
  refine j_bipush K (-60) dX6_observe_11 rfl ?_
  refine j_bipush K 60 dX6_observe_13 rfl ?_
  refine j_cS3r K dX6_observe_15 m_X6_isWithin s_X6_isWithin k_X6_89 (c_MW _ _ _ hy) (Nat.le_of_ble_eq_true rfl) ⟨by decide, by decide⟩ (by decide) (by decide) ?_
  refine j_if_ne K 27 dX6_observe_18 (by decide) (fun h_18 => ?_) (fun h_18 => absurd h_18 (by decide))
  refine j_iconst K 0 dX6_observe_27 rfl ?_
  refine j_istore_n K 3 dX6_observe_28 rfl (by decide) ?_
  refine j_aload_n K 0 dX6_observe_29 rfl rfl ?_
  refine jGr K 30 0 dX6_observe_30 f_X6_28 rfl rfl rfl rfl ?_
  refine j_iload_n K 1 dX6_observe_33 rfl rfl ?_
  refine jIald K (a) dX6_observe_34 rfl rfl hx (by omega) ?_
  refine j_iconst K 1 dX6_observe_35 rfl ?_
  refine j_isub K dX6_observe_36 ?_
  refine j_istore K dX6_observe_37 (by decide) ?_
  rw [show thr V 0 30 0 a - 1 = nI c0 - 1 from by rw [← hR.1]; rfl]
  exact lp c0 (thr V 0) 0 _ _ c0 hR (Nat.le_refl _) rfl
