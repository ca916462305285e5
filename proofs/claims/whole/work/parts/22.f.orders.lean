set_option maxRecDepth 20000 in
set_option maxHeartbeats 400000 in
theorem c_order {l : Launch} {D : va_G} {ca : Nat → ClassId} {q0 : Nat} {sa : Nat → Nat} {ad : jAd} {z n : Nat} {V : jV} {a : Nat} (x d : Int32) (hI : XI n V) (ha : a < n) (hx : x = nI a) (hd : 0 ≤ d ∧ d ≤ 99999) (ho : V 3 0 a = -1) : jMet l D ca q0 sa ad yX5_order cX5_order 3 (some .int) 2 0 0 [.ref (ad 0 0), .int x, .int d] (jS z n V) (jRet (some (.int (nI (obf (xo (up V 3 0 a d)) (xr (up V 3 0 a d)) a n)))) (jS z n (up V 3 0 a d))) := by
  refine j_enter RX5 [some (.ref (ad 0 0)), some (.int x), some (.int d)] rfl (by decide) (by simp [Value.category]) (Nat.le_of_ble_eq_true rfl) rfl ?_
  intro p e s m args below meth c K hnm hX
  have hn6 := hI.1
  have hl : decide (a < n) = true := decide_eq_true ha
  have ht : LV n 6 a = true := lv_pier ha
  have hI2 : XI n (up V 3 0 a d) := XI_up hI (by decide)
  subst hx
  refine j_aload_n K 0 dX5_order_0 rfl rfl ?_
  refine j_iload_n K 1 dX5_order_1 rfl rfl ?_
  refine j_cV1n K dX5_order_2 m_X5_demandPier v_X5_demandPier k_X5_185 rfl ⟨by decide, rfl⟩ rfl (c_dP _ hI ⟨a, ha, rfl⟩) (Nat.le_of_ble_eq_true rfl) ⟨by decide, by decide⟩ (by decide) (by decide) ?_
  refine j_iload_n K 2 dX5_order_5 rfl rfl ?_
  refine j_cS1n K dX5_order_6 m_X5_demandDay s_X5_demandDay k_X5_88 (c_dD _ hd) (Nat.le_of_ble_eq_true rfl) ⟨by decide, by decide⟩ (by decide) (by decide) ?_
  refine j_aload_n K 0 dX5_order_9 rfl rfl ?_
  refine jGr K 3 0 dX5_order_10 f_X5_23 rfl rfl rfl rfl ?_
  refine j_iload_n K 1 dX5_order_13 rfl rfl ?_
  refine jIald K (a) dX5_order_14 rfl rfl rfl (by omega) ?_
  refine j_iconst K (-1) dX5_order_15 rfl ?_
  refine j_icmp_eq K 29 dX5_order_16 (by decide) (fun h_16 => ?_) (fun h_16 => ?_)
  · refine j_aload_n K 0 dX5_order_29 rfl rfl ?_
    refine jGr K 3 0 dX5_order_30 f_X5_23 rfl rfl rfl rfl ?_
    refine j_iload_n K 1 dX5_order_33 rfl rfl ?_
    refine j_iload_n K 2 dX5_order_34 rfl rfl ?_
    refine jIast K (a) dX5_order_35 rfl rfl rfl (by omega) ?_
    refine j_aload_n K 0 dX5_order_36 rfl rfl ?_
    refine j_iload_n K 1 dX5_order_37 rfl rfl ?_
    refine j_cV1r K dX5_order_38 m_X5_ordersBefore v_X5_ordersBefore k_X5_190 rfl ⟨by decide, rfl⟩ rfl (c_X5_ordersBefore hI2 ha) (Nat.le_of_ble_eq_true rfl) ⟨by decide, by decide⟩ (by decide) (by decide) ?_
    refine j_iret K dX5_order_41 ?_
    exact ⟨rfl, rfl⟩
  · exact absurd ho h_16
set_option maxRecDepth 20000 in
set_option maxHeartbeats 400000 in
theorem c_orderx1 {l : Launch} {D : va_G} {ca : Nat → ClassId} {q0 : Nat} {sa : Nat → Nat} {ad : jAd} {z n : Nat} {V : jV} (x d : Int32) (hI : XI n V) (h : ¬ okP n x) : jMet l D ca q0 sa ad yX5_order cX5_order 3 (some .int) 2 1 6 [.ref (ad 0 0), .int x, .int d] (jS z n V) (jExc "java/lang/IndexOutOfBoundsException" (jS z n V)) := by
  refine j_enter RX5 [some (.ref (ad 0 0)), some (.int x), some (.int d)] rfl (by decide) (by simp [Value.category]) (Nat.le_of_ble_eq_true rfl) rfl ?_
  intro p e s m args below meth c K hnm hX
  refine j_aload_n K 0 dX5_order_0 rfl rfl ?_
  refine j_iload_n K 1 dX5_order_1 rfl rfl ?_
  exact j_cV1x K dX5_order_2 m_X5_demandPier v_X5_demandPier k_X5_185 rfl ⟨by decide, rfl⟩ rfl (c_dPx _ hI h) (Nat.le_of_ble_eq_true rfl) ⟨by decide, by decide⟩ (by decide) (by decide) hX (fun _ => ⟨rfl, rfl⟩)
set_option maxRecDepth 20000 in
set_option maxHeartbeats 400000 in
theorem c_orderx2 {l : Launch} {D : va_G} {ca : Nat → ClassId} {q0 : Nat} {sa : Nat → Nat} {ad : jAd} {z n : Nat} {V : jV} {a : Nat} (x d : Int32) (hI : XI n V) (ha : a < n) (hx : x = nI a) (h : ¬ (0 ≤ d ∧ d ≤ 99999)) : jMet l D ca q0 sa ad yX5_order cX5_order 3 (some .int) 2 1 6 [.ref (ad 0 0), .int x, .int d] (jS z n V) (jExc "java/lang/IllegalArgumentException" (jS z n V)) := by
  refine j_enter RX5 [some (.ref (ad 0 0)), some (.int x), some (.int d)] rfl (by decide) (by simp [Value.category]) (Nat.le_of_ble_eq_true rfl) rfl ?_
  intro p e s m args below meth c K hnm hX
  have hn6 := hI.1
  have hl : decide (a < n) = true := decide_eq_true ha
  have ht : LV n 6 a = true := lv_pier ha
  refine j_aload_n K 0 dX5_order_0 rfl rfl ?_
  refine j_iload_n K 1 dX5_order_1 rfl rfl ?_
  refine j_cV1n K dX5_order_2 m_X5_demandPier v_X5_demandPier k_X5_185 rfl ⟨by decide, rfl⟩ rfl (c_dP _ hI ⟨a, ha, hx⟩) (Nat.le_of_ble_eq_true rfl) ⟨by decide, by decide⟩ (by decide) (by decide) ?_
  refine j_iload_n K 2 dX5_order_5 rfl rfl ?_
  exact j_cS1x K dX5_order_6 m_X5_demandDay s_X5_demandDay k_X5_88 (c_dDx _ h) (Nat.le_of_ble_eq_true rfl) ⟨by decide, by decide⟩ (by decide) (by decide) hX (fun _ => ⟨rfl, rfl⟩)
set_option maxRecDepth 20000 in
set_option maxHeartbeats 400000 in
theorem c_orderx3 {l : Launch} {D : va_G} {ca : Nat → ClassId} {q0 : Nat} {sa : Nat → Nat} {ad : jAd} {z n : Nat} {V : jV} {a : Nat} (x d : Int32) (hI : XI n V) (ha : a < n) (hx : x = nI a) (hd : 0 ≤ d ∧ d ≤ 99999) (ho : ¬ V 3 0 a = -1) : jMet l D ca q0 sa ad yX5_order cX5_order 3 (some .int) 2 1 6 [.ref (ad 0 0), .int x, .int d] (jS z n V) (jExc "java/lang/IllegalStateException" (jS z n V)) := by
  refine j_enter RX5 [some (.ref (ad 0 0)), some (.int x), some (.int d)] rfl (by decide) (by simp [Value.category]) (Nat.le_of_ble_eq_true rfl) rfl ?_
  intro p e s m args below meth c K hnm hX
  have hn6 := hI.1
  have hl : decide (a < n) = true := decide_eq_true ha
  have ht : LV n 6 a = true := lv_pier ha
  refine j_aload_n K 0 dX5_order_0 rfl rfl ?_
  refine j_iload_n K 1 dX5_order_1 rfl rfl ?_
  refine j_cV1n K dX5_order_2 m_X5_demandPier v_X5_demandPier k_X5_185 rfl ⟨by decide, rfl⟩ rfl (c_dP _ hI ⟨a, ha, hx⟩) (Nat.le_of_ble_eq_true rfl) ⟨by decide, by decide⟩ (by decide) (by decide) ?_
  refine j_iload_n K 2 dX5_order_5 rfl rfl ?_
  refine j_cS1n K dX5_order_6 m_X5_demandDay s_X5_demandDay k_X5_88 (c_dD _ hd) (Nat.le_of_ble_eq_true rfl) ⟨by decide, by decide⟩ (by decide) (by decide) ?_
  refine j_aload_n K 0 dX5_order_9 rfl rfl ?_
  refine jGr K 3 0 dX5_order_10 f_X5_23 rfl rfl rfl rfl ?_
  refine j_iload_n K 1 dX5_order_13 rfl rfl ?_
  refine jIald K (a) dX5_order_14 rfl rfl hx (by omega) ?_
  refine j_iconst K (-1) dX5_order_15 rfl ?_
  refine j_icmp_eq K 29 dX5_order_16 (by decide) (fun h_16 => ?_) (fun h_16 => ?_)
  · exact absurd h_16 ho
  · exact j_throw (text := "an order for the pier is waiting") K hX thr_ISE (by decide +kernel) dX5_order_19 dX5_order_22 dX5_order_23 dX5_order_25 dX5_order_28 (by decide) (by decide) (Nat.le_of_ble_eq_true rfl) (fun _ => ⟨rfl, rfl⟩)
set_option maxRecDepth 20000 in
set_option maxHeartbeats 400000 in
theorem c_cancelOrder {l : Launch} {D : va_G} {ca : Nat → ClassId} {q0 : Nat} {sa : Nat → Nat} {ad : jAd} {z n : Nat} {V : jV} {a : Nat} (x : Int32) (hI : XI n V) (ha : a < n) (hx : x = nI a) (ho : ¬ V 3 0 a = -1) : jMet l D ca q0 sa ad yX5_cancelOrder cX5_cancelOrder 3 (some .int) 2 0 0 [.ref (ad 0 0), .int x] (jS z n V) (jRet (some (.int (V 3 0 a))) (jS z n (up V 3 0 a (-1)))) := by
  refine j_enter RX5 [some (.ref (ad 0 0)), some (.int x), none] rfl (by decide) (by simp [Value.category]) (Nat.le_of_ble_eq_true rfl) rfl ?_
  intro p e s m args below meth c K hnm hX
  have hn6 := hI.1
  have hl : decide (a < n) = true := decide_eq_true ha
  have ht : LV n 6 a = true := lv_pier ha
  refine j_aload_n K 0 dX5_cancelOrder_0 rfl rfl ?_
  refine j_iload_n K 1 dX5_cancelOrder_1 rfl rfl ?_
  refine j_cV1n K dX5_cancelOrder_2 m_X5_demandPier v_X5_demandPier k_X5_185 rfl ⟨by decide, rfl⟩ rfl (c_dP _ hI ⟨a, ha, hx⟩) (Nat.le_of_ble_eq_true rfl) ⟨by decide, by decide⟩ (by decide) (by decide) ?_
  refine j_aload_n K 0 dX5_cancelOrder_5 rfl rfl ?_
  refine jGr K 3 0 dX5_cancelOrder_6 f_X5_23 rfl rfl rfl rfl ?_
  refine j_iload_n K 1 dX5_cancelOrder_9 rfl rfl ?_
  refine jIald K (a) dX5_cancelOrder_10 rfl rfl hx (by omega) ?_
  refine j_istore_n K 2 dX5_cancelOrder_11 rfl (by decide) ?_
  refine j_iload_n K 2 dX5_cancelOrder_12 rfl rfl ?_
  refine j_iconst K (-1) dX5_cancelOrder_13 rfl ?_
  refine j_icmp_ne K 27 dX5_cancelOrder_14 (by decide) (fun h_14 => ?_) (fun h_14 => ?_)
  · refine j_aload_n K 0 dX5_cancelOrder_27 rfl rfl ?_
    refine jGr K 3 0 dX5_cancelOrder_28 f_X5_23 rfl rfl rfl rfl ?_
    refine j_iload_n K 1 dX5_cancelOrder_31 rfl rfl ?_
    refine j_iconst K (-1) dX5_cancelOrder_32 rfl ?_
    refine jIast K (a) dX5_cancelOrder_33 rfl rfl hx (by omega) ?_
    refine j_iload_n K 2 dX5_cancelOrder_34 rfl rfl ?_
    refine j_iret K dX5_cancelOrder_35 ?_
    exact ⟨rfl, rfl⟩
  · exact absurd h_14 ho
set_option maxRecDepth 20000 in
set_option maxHeartbeats 400000 in
theorem c_cancelOrderx1 {l : Launch} {D : va_G} {ca : Nat → ClassId} {q0 : Nat} {sa : Nat → Nat} {ad : jAd} {z n : Nat} {V : jV} (x : Int32) (hI : XI n V) (h : ¬ okP n x) : jMet l D ca q0 sa ad yX5_cancelOrder cX5_cancelOrder 3 (some .int) 2 1 6 [.ref (ad 0 0), .int x] (jS z n V) (jExc "java/lang/IndexOutOfBoundsException" (jS z n V)) := by
  refine j_enter RX5 [some (.ref (ad 0 0)), some (.int x), none] rfl (by decide) (by simp [Value.category]) (Nat.le_of_ble_eq_true rfl) rfl ?_
  intro p e s m args below meth c K hnm hX
  refine j_aload_n K 0 dX5_cancelOrder_0 rfl rfl ?_
  refine j_iload_n K 1 dX5_cancelOrder_1 rfl rfl ?_
  exact j_cV1x K dX5_cancelOrder_2 m_X5_demandPier v_X5_demandPier k_X5_185 rfl ⟨by decide, rfl⟩ rfl (c_dPx _ hI h) (Nat.le_of_ble_eq_true rfl) ⟨by decide, by decide⟩ (by decide) (by decide) hX (fun _ => ⟨rfl, rfl⟩)
set_option maxRecDepth 20000 in
set_option maxHeartbeats 400000 in
theorem c_cancelOrderx2 {l : Launch} {D : va_G} {ca : Nat → ClassId} {q0 : Nat} {sa : Nat → Nat} {ad : jAd} {z n : Nat} {V : jV} {a : Nat} (x : Int32) (hI : XI n V) (ha : a < n) (hx : x = nI a) (ho : V 3 0 a = -1) : jMet l D ca q0 sa ad yX5_cancelOrder cX5_cancelOrder 3 (some .int) 2 1 6 [.ref (ad 0 0), .int x] (jS z n V) (jExc ns_C (jS z n V)) := by
  refine j_enter RX5 [some (.ref (ad 0 0)), some (.int x), none] rfl (by decide) (by simp [Value.category]) (Nat.le_of_ble_eq_true rfl) rfl ?_
  intro p e s m args below meth c K hnm hX
  have hn6 := hI.1
  have hl : decide (a < n) = true := decide_eq_true ha
  have ht : LV n 6 a = true := lv_pier ha
  refine j_aload_n K 0 dX5_cancelOrder_0 rfl rfl ?_
  refine j_iload_n K 1 dX5_cancelOrder_1 rfl rfl ?_
  refine j_cV1n K dX5_cancelOrder_2 m_X5_demandPier v_X5_demandPier k_X5_185 rfl ⟨by decide, rfl⟩ rfl (c_dP _ hI ⟨a, ha, hx⟩) (Nat.le_of_ble_eq_true rfl) ⟨by decide, by decide⟩ (by decide) (by decide) ?_
  refine j_aload_n K 0 dX5_cancelOrder_5 rfl rfl ?_
  refine jGr K 3 0 dX5_cancelOrder_6 f_X5_23 rfl rfl rfl rfl ?_
  refine j_iload_n K 1 dX5_cancelOrder_9 rfl rfl ?_
  refine jIald K (a) dX5_cancelOrder_10 rfl rfl hx (by omega) ?_
  refine j_istore_n K 2 dX5_cancelOrder_11 rfl (by decide) ?_
  refine j_iload_n K 2 dX5_cancelOrder_12 rfl rfl ?_
  refine j_iconst K (-1) dX5_cancelOrder_13 rfl ?_
  refine j_icmp_ne K 27 dX5_cancelOrder_14 (by decide) (fun h_14 => ?_) (fun h_14 => ?_)
  · exact absurd ho h_14
  · exact j_throwN (text := "no order for the pier is waiting") K hX thr_NSE (by decide +kernel) dX5_cancelOrder_17 dX5_cancelOrder_20 dX5_cancelOrder_21 dX5_cancelOrder_23 dX5_cancelOrder_26 (by decide) (by decide) (Nat.le_of_ble_eq_true rfl) (fun _ => ⟨rfl, rfl⟩)
set_option maxRecDepth 20000 in
set_option maxHeartbeats 400000 in
theorem c_waitingPier {l : Launch} {D : va_G} {ca : Nat → ClassId} {q0 : Nat} {sa : Nat → Nat} {ad : jAd} {z n : Nat} {V : jV} {g : Nat} (x : Int32) (hI : XI n V) (hg : fidx (wai (xo V) (xr V) n x) n = g) (hgn : g < n) : jMet l D ca q0 sa ad yX5_waitingPier cX5_waitingPier 3 (some .int) 3 0 0 [.ref (ad 0 0), .int x] (jS z n V) (jRet (some (.int (nI g))) (jS z n V)) := by
  refine j_enter RX5 [some (.ref (ad 0 0)), some (.int x), none] rfl (by decide) (by simp [Value.category]) (Nat.le_of_ble_eq_true rfl) rfl ?_
  intro p e s m args below meth c K hnm hX
  have hn6 := hI.1
  have hfr : fres (wai (xo V) (xr V) n x) n = nI g := by unfold fres; rw [hg, if_pos hgn]
  refine j_aload_n K 0 dX5_waitingPier_0 rfl rfl ?_
  refine j_iload_n K 1 dX5_waitingPier_1 rfl rfl ?_
  refine j_cV1r K dX5_waitingPier_2 m_X5_pierOfOrder v_X5_pierOfOrder k_X5_195 rfl ⟨by decide, rfl⟩ rfl (c_X5_pierOfOrder _ hI) (Nat.le_of_ble_eq_true rfl) ⟨by decide, by decide⟩ (by decide) (by decide) ?_
  refine j_istore_n K 2 dX5_waitingPier_5 rfl (by decide) ?_
  refine j_iload_n K 2 dX5_waitingPier_6 rfl rfl ?_
  refine j_iconst K (-1) dX5_waitingPier_7 rfl ?_
  refine j_icmp_ne K 21 dX5_waitingPier_8 (by decide) (fun h_8 => ?_) (fun h_8 => ?_)
  · refine j_iload_n K 2 dX5_waitingPier_21 rfl rfl ?_
    refine j_iret K dX5_waitingPier_22 ?_
    exact jret_I hfr
  · exact absurd (hfr.symm.trans h_8) (nI_neg1 (by omega))
set_option maxRecDepth 20000 in
set_option maxHeartbeats 400000 in
theorem c_waitingPierx {l : Launch} {D : va_G} {ca : Nat → ClassId} {q0 : Nat} {sa : Nat → Nat} {ad : jAd} {z n : Nat} {V : jV} (x : Int32) (hI : XI n V) (hg : ¬ fidx (wai (xo V) (xr V) n x) n < n) : jMet l D ca q0 sa ad yX5_waitingPier cX5_waitingPier 3 (some .int) 3 1 6 [.ref (ad 0 0), .int x] (jS z n V) (jExc ns_C (jS z n V)) := by
  refine j_enter RX5 [some (.ref (ad 0 0)), some (.int x), none] rfl (by decide) (by simp [Value.category]) (Nat.le_of_ble_eq_true rfl) rfl ?_
  intro p e s m args below meth c K hnm hX
  have hfr : fres (wai (xo V) (xr V) n x) n = -1 := by unfold fres; rw [if_neg hg]
  refine j_aload_n K 0 dX5_waitingPier_0 rfl rfl ?_
  refine j_iload_n K 1 dX5_waitingPier_1 rfl rfl ?_
  refine j_cV1r K dX5_waitingPier_2 m_X5_pierOfOrder v_X5_pierOfOrder k_X5_195 rfl ⟨by decide, rfl⟩ rfl (c_X5_pierOfOrder _ hI) (Nat.le_of_ble_eq_true rfl) ⟨by decide, by decide⟩ (by decide) (by decide) ?_
  refine j_istore_n K 2 dX5_waitingPier_5 rfl (by decide) ?_
  refine j_iload_n K 2 dX5_waitingPier_6 rfl rfl ?_
  refine j_iconst K (-1) dX5_waitingPier_7 rfl ?_
  refine j_icmp_ne K 21 dX5_waitingPier_8 (by decide) (fun h_8 => ?_) (fun h_8 => ?_)
  · exact absurd hfr h_8
  · exact j_throwN (text := "no such place") K hX thr_NSE (by decide +kernel) dX5_waitingPier_11 dX5_waitingPier_14 dX5_waitingPier_15 dX5_waitingPier_17 dX5_waitingPier_20 (by decide) (by decide) (Nat.le_of_ble_eq_true rfl) (fun _ => ⟨rfl, rfl⟩)
set_option maxRecDepth 20000 in
set_option maxHeartbeats 400000 in
theorem c_linesToPaint {l : Launch} {D : va_G} {ca : Nat → ClassId} {q0 : Nat} {sa : Nat → Nat} {ad : jAd} {z n : Nat} {V : jV} {a : Nat} (hI : XI n V) (hjb : V 0 0 8 = nI a) (ha : a < n)  : jMet l D ca q0 sa ad yX5_linesToPaint cX5_linesToPaint 1 (some .int) 1 0 0 [.ref (ad 0 0)] (jS z n V) (jRet (some (.int (nI (bln V a (tn (V 6 a 3)))))) (jS z n V)) := by
  refine j_enter RX5 [some (.ref (ad 0 0))] rfl (by decide) (by simp [Value.category]) (Nat.le_of_ble_eq_true rfl) rfl ?_
  intro p e s m args below meth c K hnm hX
  have hn6 := hI.1
  have hl : decide (a < n) = true := decide_eq_true ha
  have ht : LV n 6 a = true := lv_pier ha
  have hw := hI.2.2.2.1 a ha
  obtain ⟨hw, hw4⟩ := hw
  refine j_aload_n K 0 dX5_linesToPaint_0 rfl rfl ?_
  refine jGi K dX5_linesToPaint_1 f_X5_46 rfl rfl rfl ?_
  refine j_iconst K (-1) dX5_linesToPaint_4 rfl ?_
  refine j_icmp_ne K 12 dX5_linesToPaint_5 (by decide) (fun h_5 => ?_) (fun h_5 => ?_)
  · refine j_aload_n K 0 dX5_linesToPaint_12 rfl rfl ?_
    refine jGr K 1 0 dX5_linesToPaint_13 f_X5_11 rfl rfl rfl rfl ?_
    refine j_aload_n K 0 dX5_linesToPaint_16 rfl rfl ?_
    refine jGi K dX5_linesToPaint_17 f_X5_46 rfl rfl rfl ?_
    refine jAald K (a) 10 (a) dX5_linesToPaint_20 rfl rfl hjb (by omega) (rf_pier (by omega)) ?_
    refine jGr K 15 a dX5_linesToPaint_21 f_X5_79 rfl hl rfl rfl ?_
    refine j_cV0r K dX5_linesToPaint_24 m_X0_blankLines v_X0_blankLines k_X5_198 rfl ⟨by decide, rfl⟩ hl (c_X0_blankLines hl ht hw hw4) (Nat.le_of_ble_eq_true rfl) ⟨by decide, by decide⟩ (by decide) (by decide) ?_
    refine j_iret K dX5_linesToPaint_27 ?_
    exact ⟨rfl, rfl⟩
  · exact absurd (hjb.symm.trans h_5) (nI_neg1 (by omega))
set_option maxRecDepth 20000 in
set_option maxHeartbeats 400000 in
theorem c_linesToPaint0 {l : Launch} {D : va_G} {ca : Nat → ClassId} {q0 : Nat} {sa : Nat → Nat} {ad : jAd} {z n : Nat} {V : jV}  (hjb : V 0 0 8 = -1) : jMet l D ca q0 sa ad yX5_linesToPaint cX5_linesToPaint 1 (some .int) 1 0 0 [.ref (ad 0 0)] (jS z n V) (jRet (some (.int (0))) (jS z n V)) := by
  refine j_enter RX5 [some (.ref (ad 0 0))] rfl (by decide) (by simp [Value.category]) (Nat.le_of_ble_eq_true rfl) rfl ?_
  intro p e s m args below meth c K hnm hX
  refine j_aload_n K 0 dX5_linesToPaint_0 rfl rfl ?_
  refine jGi K dX5_linesToPaint_1 f_X5_46 rfl rfl rfl ?_
  refine j_iconst K (-1) dX5_linesToPaint_4 rfl ?_
  refine j_icmp_ne K 12 dX5_linesToPaint_5 (by decide) (fun h_5 => ?_) (fun h_5 => ?_)
  · exact absurd hjb h_5
  · refine j_iconst K 0 dX5_linesToPaint_8 rfl ?_
    refine j_goto K 27 dX5_linesToPaint_9 (by decide) ?_
    refine j_iret K dX5_linesToPaint_27 ?_
    exact ⟨rfl, rfl⟩
set_option maxRecDepth 20000 in
set_option maxHeartbeats 400000 in
theorem c_giveUpJob {l : Launch} {D : va_G} {ca : Nat → ClassId} {q0 : Nat} {sa : Nat → Nat} {ad : jAd} {z n : Nat} {V : jV} {a : Nat} (hI : XI n V) (hjb : V 0 0 8 = nI a) (ha : a < n)  : jMet l D ca q0 sa ad yX5_giveUpJob cX5_giveUpJob 2 (some .int) 1 0 0 [.ref (ad 0 0)] (jS z n V) (jRet (some (.int (nI (bln V a (tn (V 6 a 3)))))) (jS z n (up V 0 0 8 (-1)))) := by
  refine j_enter RX5 [some (.ref (ad 0 0)), none] rfl (by decide) (by simp [Value.category]) (Nat.le_of_ble_eq_true rfl) rfl ?_
  intro p e s m args below meth c K hnm hX
  have hn6 := hI.1
  have hl : decide (a < n) = true := decide_eq_true ha
  have ht : LV n 6 a = true := lv_pier ha
  have hw := hI.2.2.2.1 a ha
  obtain ⟨hw, hw4⟩ := hw
  refine j_aload_n K 0 dX5_giveUpJob_0 rfl rfl ?_
  refine jGi K dX5_giveUpJob_1 f_X5_46 rfl rfl rfl ?_
  refine j_iconst K (-1) dX5_giveUpJob_4 rfl ?_
  refine j_icmp_ne K 18 dX5_giveUpJob_5 (by decide) (fun h_5 => ?_) (fun h_5 => ?_)
  · refine j_aload_n K 0 dX5_giveUpJob_18 rfl rfl ?_
    refine jGr K 1 0 dX5_giveUpJob_19 f_X5_11 rfl rfl rfl rfl ?_
    refine j_aload_n K 0 dX5_giveUpJob_22 rfl rfl ?_
    refine jGi K dX5_giveUpJob_23 f_X5_46 rfl rfl rfl ?_
    refine jAald K (a) 10 (a) dX5_giveUpJob_26 rfl rfl hjb (by omega) (rf_pier (by omega)) ?_
    refine jGr K 15 a dX5_giveUpJob_27 f_X5_79 rfl hl rfl rfl ?_
    refine j_cV0r K dX5_giveUpJob_30 m_X0_blankLines v_X0_blankLines k_X5_198 rfl ⟨by decide, rfl⟩ hl (c_X0_blankLines hl ht hw hw4) (Nat.le_of_ble_eq_true rfl) ⟨by decide, by decide⟩ (by decide) (by decide) ?_
    refine j_istore_n K 1 dX5_giveUpJob_33 rfl (by decide) ?_
    refine j_aload_n K 0 dX5_giveUpJob_34 rfl rfl ?_
    refine j_iconst K (-1) dX5_giveUpJob_35 rfl ?_
    refine jPi K dX5_giveUpJob_36 fo_X5_46 rfl rfl rfl rfl (Or.inl rfl) ?_
    refine j_iload_n K 1 dX5_giveUpJob_39 rfl rfl ?_
    refine j_iret K dX5_giveUpJob_40 ?_
    exact ⟨rfl, rfl⟩
  · exact absurd (hjb.symm.trans h_5) (nI_neg1 (by omega))
set_option maxRecDepth 20000 in
set_option maxHeartbeats 400000 in
theorem c_giveUpJobx {l : Launch} {D : va_G} {ca : Nat → ClassId} {q0 : Nat} {sa : Nat → Nat} {ad : jAd} {z n : Nat} {V : jV}  (hjb : V 0 0 8 = -1) : jMet l D ca q0 sa ad yX5_giveUpJob cX5_giveUpJob 2 (some .int) 1 1 6 [.ref (ad 0 0)] (jS z n V) (jExc "java/lang/IllegalStateException" (jS z n V)) := by
  refine j_enter RX5 [some (.ref (ad 0 0)), none] rfl (by decide) (by simp [Value.category]) (Nat.le_of_ble_eq_true rfl) rfl ?_
  intro p e s m args below meth c K hnm hX
  refine j_aload_n K 0 dX5_giveUpJob_0 rfl rfl ?_
  refine jGi K dX5_giveUpJob_1 f_X5_46 rfl rfl rfl ?_
  refine j_iconst K (-1) dX5_giveUpJob_4 rfl ?_
  refine j_icmp_ne K 18 dX5_giveUpJob_5 (by decide) (fun h_5 => ?_) (fun h_5 => ?_)
  · exact absurd hjb h_5
  · exact j_throw (text := "there is no job") K hX thr_ISE (by decide +kernel) dX5_giveUpJob_8 dX5_giveUpJob_11 dX5_giveUpJob_12 dX5_giveUpJob_14 dX5_giveUpJob_17 (by decide) (by decide) (Nat.le_of_ble_eq_true rfl) (fun _ => ⟨rfl, rfl⟩)
set_option maxRecDepth 20000 in
set_option maxHeartbeats 400000 in
theorem c_lineState {l : Launch} {D : va_G} {ca : Nat → ClassId} {q0 : Nat} {sa : Nat → Nat} {ad : jAd} {z n : Nat} {V : jV} {a j : Nat} (x y : Int32) (hI : XI n V) (ha : a < n) (hx : x = nI a) (hy : y = nI j) (hj : j < (tn (V 6 a 3)))  : jMet l D ca q0 sa ad yX5_lineState cX5_lineState 3 (some .int) 3 0 0 [.ref (ad 0 0), .int x, .int y] (jS z n V) (jRet (some (.int (V 16 a j))) (jS z n V)) := by
  refine j_enter RX5 [some (.ref (ad 0 0)), some (.int x), some (.int y)] rfl (by decide) (by simp [Value.category]) (Nat.le_of_ble_eq_true rfl) rfl ?_
  intro p e s m args below meth c K hnm hX
  have hn6 := hI.1
  have hl : decide (a < n) = true := decide_eq_true ha
  have ht : LV n 6 a = true := lv_pier ha
  have hw := hI.2.2.2.1 a ha
  obtain ⟨hw, hw4⟩ := hw
  refine j_aload_n K 0 dX5_lineState_0 rfl rfl ?_
  refine j_iload_n K 1 dX5_lineState_1 rfl rfl ?_
  refine j_iload_n K 2 dX5_lineState_2 rfl rfl ?_
  refine j_cV2r K dX5_lineState_3 m_X5_boardWithLine v_X5_boardWithLine k_X5_231 rfl ⟨by decide, rfl⟩ rfl (c_bL _ _ hI ha hx ⟨j, hj, hy⟩) (Nat.le_of_ble_eq_true rfl) ⟨by decide, by decide⟩ (by decide) (by decide) ?_
  refine jGr K 16 a dX5_lineState_6 f_X5_235 rfl hl rfl rfl ?_
  refine j_iload_n K 2 dX5_lineState_9 rfl rfl ?_
  refine jIald K (j) dX5_lineState_10 rfl hl hy (by omega) ?_
  refine j_iret K dX5_lineState_11 ?_
  exact ⟨rfl, rfl⟩
set_option maxRecDepth 20000 in
set_option maxHeartbeats 400000 in
theorem c_lineStatex1 {l : Launch} {D : va_G} {ca : Nat → ClassId} {q0 : Nat} {sa : Nat → Nat} {ad : jAd} {z n : Nat} {V : jV} (x y : Int32) (hI : XI n V) (h : ¬ okP n x) : jMet l D ca q0 sa ad yX5_lineState cX5_lineState 3 (some .int) 3 1 6 [.ref (ad 0 0), .int x, .int y] (jS z n V) (jExc "java/lang/IndexOutOfBoundsException" (jS z n V)) := by
  refine j_enter RX5 [some (.ref (ad 0 0)), some (.int x), some (.int y)] rfl (by decide) (by simp [Value.category]) (Nat.le_of_ble_eq_true rfl) rfl ?_
  intro p e s m args below meth c K hnm hX
  refine j_aload_n K 0 dX5_lineState_0 rfl rfl ?_
  refine j_iload_n K 1 dX5_lineState_1 rfl rfl ?_
  refine j_iload_n K 2 dX5_lineState_2 rfl rfl ?_
  exact j_cV2x K dX5_lineState_3 m_X5_boardWithLine v_X5_boardWithLine k_X5_231 rfl ⟨by decide, rfl⟩ rfl (c_bLx1 _ _ hI h) (Nat.le_of_ble_eq_true rfl) ⟨by decide, by decide⟩ (by decide) (by decide) hX (fun _ => ⟨rfl, rfl⟩)
set_option maxRecDepth 20000 in
set_option maxHeartbeats 400000 in
theorem c_lineStatex2 {l : Launch} {D : va_G} {ca : Nat → ClassId} {q0 : Nat} {sa : Nat → Nat} {ad : jAd} {z n : Nat} {V : jV} {a : Nat} (x y : Int32) (hI : XI n V) (ha : a < n) (hx : x = nI a) (h : ¬ okP (tn (V 6 a 3)) y) : jMet l D ca q0 sa ad yX5_lineState cX5_lineState 3 (some .int) 3 1 6 [.ref (ad 0 0), .int x, .int y] (jS z n V) (jExc "java/lang/IndexOutOfBoundsException" (jS z n V)) := by
  refine j_enter RX5 [some (.ref (ad 0 0)), some (.int x), some (.int y)] rfl (by decide) (by simp [Value.category]) (Nat.le_of_ble_eq_true rfl) rfl ?_
  intro p e s m args below meth c K hnm hX
  refine j_aload_n K 0 dX5_lineState_0 rfl rfl ?_
  refine j_iload_n K 1 dX5_lineState_1 rfl rfl ?_
  refine j_iload_n K 2 dX5_lineState_2 rfl rfl ?_
  exact j_cV2x K dX5_lineState_3 m_X5_boardWithLine v_X5_boardWithLine k_X5_231 rfl ⟨by decide, rfl⟩ rfl (c_bLx2 _ _ hI ha hx h) (Nat.le_of_ble_eq_true rfl) ⟨by decide, by decide⟩ (by decide) (by decide) hX (fun _ => ⟨rfl, rfl⟩)
set_option maxRecDepth 20000 in
set_option maxHeartbeats 400000 in
theorem c_lineMinute {l : Launch} {D : va_G} {ca : Nat → ClassId} {q0 : Nat} {sa : Nat → Nat} {ad : jAd} {z n : Nat} {V : jV} {a j : Nat} (x y : Int32) (hI : XI n V) (ha : a < n) (hx : x = nI a) (hy : y = nI j) (hj : j < (tn (V 6 a 3))) (hs : ¬ V 16 a j = 0) : jMet l D ca q0 sa ad yX5_lineMinute cX5_lineMinute 3 (some .int) 4 0 0 [.ref (ad 0 0), .int x, .int y] (jS z n V) (jRet (some (.int (V 7 a j))) (jS z n V)) := by
  refine j_enter RX5 [some (.ref (ad 0 0)), some (.int x), some (.int y)] rfl (by decide) (by simp [Value.category]) (Nat.le_of_ble_eq_true rfl) rfl ?_
  intro p e s m args below meth c K hnm hX
  have hn6 := hI.1
  have hl : decide (a < n) = true := decide_eq_true ha
  have ht : LV n 6 a = true := lv_pier ha
  have hw := hI.2.2.2.1 a ha
  obtain ⟨hw, hw4⟩ := hw
  refine j_aload_n K 0 dX5_lineMinute_0 rfl rfl ?_
  refine j_iload_n K 1 dX5_lineMinute_1 rfl rfl ?_
  refine j_iload_n K 2 dX5_lineMinute_2 rfl rfl ?_
  refine j_cV2r K dX5_lineMinute_3 m_X5_boardWithPaintedLine v_X5_boardWithPaintedLine k_X5_238 rfl ⟨by decide, rfl⟩ rfl (c_bP _ _ hI ha hx hy hj hs) (Nat.le_of_ble_eq_true rfl) ⟨by decide, by decide⟩ (by decide) (by decide) ?_
  refine jGr K 6 a dX5_lineMinute_6 f_X5_228 rfl hl rfl rfl ?_
  refine jGr K 7 a dX5_lineMinute_9 f_X5_112 rfl ht rfl rfl ?_
  refine j_iload_n K 2 dX5_lineMinute_12 rfl rfl ?_
  refine jIald K (j) dX5_lineMinute_13 rfl ht hy (by omega) ?_
  refine j_iret K dX5_lineMinute_14 ?_
  exact ⟨rfl, rfl⟩
set_option maxRecDepth 20000 in
set_option maxHeartbeats 400000 in
theorem c_lineMinutex1 {l : Launch} {D : va_G} {ca : Nat → ClassId} {q0 : Nat} {sa : Nat → Nat} {ad : jAd} {z n : Nat} {V : jV} (x y : Int32) (hI : XI n V) (h : ¬ okP n x) : jMet l D ca q0 sa ad yX5_lineMinute cX5_lineMinute 3 (some .int) 4 1 6 [.ref (ad 0 0), .int x, .int y] (jS z n V) (jExc "java/lang/IndexOutOfBoundsException" (jS z n V)) := by
  refine j_enter RX5 [some (.ref (ad 0 0)), some (.int x), some (.int y)] rfl (by decide) (by simp [Value.category]) (Nat.le_of_ble_eq_true rfl) rfl ?_
  intro p e s m args below meth c K hnm hX
  refine j_aload_n K 0 dX5_lineMinute_0 rfl rfl ?_
  refine j_iload_n K 1 dX5_lineMinute_1 rfl rfl ?_
  refine j_iload_n K 2 dX5_lineMinute_2 rfl rfl ?_
  exact j_cV2x K dX5_lineMinute_3 m_X5_boardWithPaintedLine v_X5_boardWithPaintedLine k_X5_238 rfl ⟨by decide, rfl⟩ rfl (c_bPx1 _ _ hI h) (Nat.le_of_ble_eq_true rfl) ⟨by decide, by decide⟩ (by decide) (by decide) hX (fun _ => ⟨rfl, rfl⟩)
set_option maxRecDepth 20000 in
set_option maxHeartbeats 400000 in
theorem c_lineMinutex2 {l : Launch} {D : va_G} {ca : Nat → ClassId} {q0 : Nat} {sa : Nat → Nat} {ad : jAd} {z n : Nat} {V : jV} {a : Nat} (x y : Int32) (hI : XI n V) (ha : a < n) (hx : x = nI a) (h : ¬ okP (tn (V 6 a 3)) y) : jMet l D ca q0 sa ad yX5_lineMinute cX5_lineMinute 3 (some .int) 4 1 6 [.ref (ad 0 0), .int x, .int y] (jS z n V) (jExc "java/lang/IndexOutOfBoundsException" (jS z n V)) := by
  refine j_enter RX5 [some (.ref (ad 0 0)), some (.int x), some (.int y)] rfl (by decide) (by simp [Value.category]) (Nat.le_of_ble_eq_true rfl) rfl ?_
  intro p e s m args below meth c K hnm hX
  refine j_aload_n K 0 dX5_lineMinute_0 rfl rfl ?_
  refine j_iload_n K 1 dX5_lineMinute_1 rfl rfl ?_
  refine j_iload_n K 2 dX5_lineMinute_2 rfl rfl ?_
  exact j_cV2x K dX5_lineMinute_3 m_X5_boardWithPaintedLine v_X5_boardWithPaintedLine k_X5_238 rfl ⟨by decide, rfl⟩ rfl (c_bPx2 _ _ hI ha hx h) (Nat.le_of_ble_eq_true rfl) ⟨by decide, by decide⟩ (by decide) (by decide) hX (fun _ => ⟨rfl, rfl⟩)
set_option maxRecDepth 20000 in
set_option maxHeartbeats 400000 in
theorem c_lineMinutex3 {l : Launch} {D : va_G} {ca : Nat → ClassId} {q0 : Nat} {sa : Nat → Nat} {ad : jAd} {z n : Nat} {V : jV} {a j : Nat} (x y : Int32) (hI : XI n V) (ha : a < n) (hx : x = nI a) (hy : y = nI j) (hj : j < (tn (V 6 a 3))) (hs : V 16 a j = 0) : jMet l D ca q0 sa ad yX5_lineMinute cX5_lineMinute 3 (some .int) 4 1 6 [.ref (ad 0 0), .int x, .int y] (jS z n V) (jExc ns_C (jS z n V)) := by
  refine j_enter RX5 [some (.ref (ad 0 0)), some (.int x), some (.int y)] rfl (by decide) (by simp [Value.category]) (Nat.le_of_ble_eq_true rfl) rfl ?_
  intro p e s m args below meth c K hnm hX
  refine j_aload_n K 0 dX5_lineMinute_0 rfl rfl ?_
  refine j_iload_n K 1 dX5_lineMinute_1 rfl rfl ?_
  refine j_iload_n K 2 dX5_lineMinute_2 rfl rfl ?_
  exact j_cV2x K dX5_lineMinute_3 m_X5_boardWithPaintedLine v_X5_boardWithPaintedLine k_X5_238 rfl ⟨by decide, rfl⟩ rfl (c_bPx3 _ _ hI ha hx hy hj hs) (Nat.le_of_ble_eq_true rfl) ⟨by decide, by decide⟩ (by decide) (by decide) hX (fun _ => ⟨rfl, rfl⟩)
set_option maxRecDepth 20000 in
set_option maxHeartbeats 400000 in
theorem c_lineHeight {l : Launch} {D : va_G} {ca : Nat → ClassId} {q0 : Nat} {sa : Nat → Nat} {ad : jAd} {z n : Nat} {V : jV} {a j : Nat} (x y : Int32) (hI : XI n V) (ha : a < n) (hx : x = nI a) (hy : y = nI j) (hj : j < (tn (V 6 a 3))) (hs : ¬ V 16 a j = 0) : jMet l D ca q0 sa ad yX5_lineHeight cX5_lineHeight 3 (some .int) 4 0 0 [.ref (ad 0 0), .int x, .int y] (jS z n V) (jRet (some (.int (V 8 a j))) (jS z n V)) := by
  refine j_enter RX5 [some (.ref (ad 0 0)), some (.int x), some (.int y)] rfl (by decide) (by simp [Value.category]) (Nat.le_of_ble_eq_true rfl) rfl ?_
  intro p e s m args below meth c K hnm hX
  have hn6 := hI.1
  have hl : decide (a < n) = true := decide_eq_true ha
  have ht : LV n 6 a = true := lv_pier ha
  have hw := hI.2.2.2.1 a ha
  obtain ⟨hw, hw4⟩ := hw
  refine j_aload_n K 0 dX5_lineHeight_0 rfl rfl ?_
  refine j_iload_n K 1 dX5_lineHeight_1 rfl rfl ?_
  refine j_iload_n K 2 dX5_lineHeight_2 rfl rfl ?_
  refine j_cV2r K dX5_lineHeight_3 m_X5_boardWithPaintedLine v_X5_boardWithPaintedLine k_X5_238 rfl ⟨by decide, rfl⟩ rfl (c_bP _ _ hI ha hx hy hj hs) (Nat.le_of_ble_eq_true rfl) ⟨by decide, by decide⟩ (by decide) (by decide) ?_
  refine jGr K 6 a dX5_lineHeight_6 f_X5_228 rfl hl rfl rfl ?_
  refine jGr K 8 a dX5_lineHeight_9 f_X5_115 rfl ht rfl rfl ?_
  refine j_iload_n K 2 dX5_lineHeight_12 rfl rfl ?_
  refine jIald K (j) dX5_lineHeight_13 rfl ht hy (by omega) ?_
  refine j_iret K dX5_lineHeight_14 ?_
  exact ⟨rfl, rfl⟩
set_option maxRecDepth 20000 in
set_option maxHeartbeats 400000 in
theorem c_lineHeightx1 {l : Launch} {D : va_G} {ca : Nat → ClassId} {q0 : Nat} {sa : Nat → Nat} {ad : jAd} {z n : Nat} {V : jV} (x y : Int32) (hI : XI n V) (h : ¬ okP n x) : jMet l D ca q0 sa ad yX5_lineHeight cX5_lineHeight 3 (some .int) 4 1 6 [.ref (ad 0 0), .int x, .int y] (jS z n V) (jExc "java/lang/IndexOutOfBoundsException" (jS z n V)) := by
  refine j_enter RX5 [some (.ref (ad 0 0)), some (.int x), some (.int y)] rfl (by decide) (by simp [Value.category]) (Nat.le_of_ble_eq_true rfl) rfl ?_
  intro p e s m args below meth c K hnm hX
  refine j_aload_n K 0 dX5_lineHeight_0 rfl rfl ?_
  refine j_iload_n K 1 dX5_lineHeight_1 rfl rfl ?_
  refine j_iload_n K 2 dX5_lineHeight_2 rfl rfl ?_
  exact j_cV2x K dX5_lineHeight_3 m_X5_boardWithPaintedLine v_X5_boardWithPaintedLine k_X5_238 rfl ⟨by decide, rfl⟩ rfl (c_bPx1 _ _ hI h) (Nat.le_of_ble_eq_true rfl) ⟨by decide, by decide⟩ (by decide) (by decide) hX (fun _ => ⟨rfl, rfl⟩)
set_option maxRecDepth 20000 in
set_option maxHeartbeats 400000 in
theorem c_lineHeightx2 {l : Launch} {D : va_G} {ca : Nat → ClassId} {q0 : Nat} {sa : Nat → Nat} {ad : jAd} {z n : Nat} {V : jV} {a : Nat} (x y : Int32) (hI : XI n V) (ha : a < n) (hx : x = nI a) (h : ¬ okP (tn (V 6 a 3)) y) : jMet l D ca q0 sa ad yX5_lineHeight cX5_lineHeight 3 (some .int) 4 1 6 [.ref (ad 0 0), .int x, .int y] (jS z n V) (jExc "java/lang/IndexOutOfBoundsException" (jS z n V)) := by
  refine j_enter RX5 [some (.ref (ad 0 0)), some (.int x), some (.int y)] rfl (by decide) (by simp [Value.category]) (Nat.le_of_ble_eq_true rfl) rfl ?_
  intro p e s m args below meth c K hnm hX
  refine j_aload_n K 0 dX5_lineHeight_0 rfl rfl ?_
  refine j_iload_n K 1 dX5_lineHeight_1 rfl rfl ?_
  refine j_iload_n K 2 dX5_lineHeight_2 rfl rfl ?_
  exact j_cV2x K dX5_lineHeight_3 m_X5_boardWithPaintedLine v_X5_boardWithPaintedLine k_X5_238 rfl ⟨by decide, rfl⟩ rfl (c_bPx2 _ _ hI ha hx h) (Nat.le_of_ble_eq_true rfl) ⟨by decide, by decide⟩ (by decide) (by decide) hX (fun _ => ⟨rfl, rfl⟩)
set_option maxRecDepth 20000 in
set_option maxHeartbeats 400000 in
theorem c_lineHeightx3 {l : Launch} {D : va_G} {ca : Nat → ClassId} {q0 : Nat} {sa : Nat → Nat} {ad : jAd} {z n : Nat} {V : jV} {a j : Nat} (x y : Int32) (hI : XI n V) (ha : a < n) (hx : x = nI a) (hy : y = nI j) (hj : j < (tn (V 6 a 3))) (hs : V 16 a j = 0) : jMet l D ca q0 sa ad yX5_lineHeight cX5_lineHeight 3 (some .int) 4 1 6 [.ref (ad 0 0), .int x, .int y] (jS z n V) (jExc ns_C (jS z n V)) := by
  refine j_enter RX5 [some (.ref (ad 0 0)), some (.int x), some (.int y)] rfl (by decide) (by simp [Value.category]) (Nat.le_of_ble_eq_true rfl) rfl ?_
  intro p e s m args below meth c K hnm hX
  refine j_aload_n K 0 dX5_lineHeight_0 rfl rfl ?_
  refine j_iload_n K 1 dX5_lineHeight_1 rfl rfl ?_
  refine j_iload_n K 2 dX5_lineHeight_2 rfl rfl ?_
  exact j_cV2x K dX5_lineHeight_3 m_X5_boardWithPaintedLine v_X5_boardWithPaintedLine k_X5_238 rfl ⟨by decide, rfl⟩ rfl (c_bPx3 _ _ hI ha hx hy hj hs) (Nat.le_of_ble_eq_true rfl) ⟨by decide, by decide⟩ (by decide) (by decide) hX (fun _ => ⟨rfl, rfl⟩)
