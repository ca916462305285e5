set_option maxRecDepth 20000 in
set_option maxHeartbeats 400000 in
theorem c_deliverTin0 {l : Launch} {D : va_G} {ca : Nat → ClassId} {q0 : Nat} {sa : Nat → Nat} {ad : jAd} {z n : Nat} {V : jV} (v : Int32) (hI : XI n V) (hv : 1 ≤ v ∧ v ≤ 999) (h12 : (tn (V 4 0 1)) < 12) : jMet l D ca q0 sa ad yX5_deliverTin cX5_deliverTin 4 (some .int) 2 0 0 [.ref (ad 0 0), .int 0, .int v] (jS z n V) (jRet (some (.int (V 4 0 1 + 1))) (jS z n (addV V 0 (tn (V 4 0 1)) v))) := by
  refine j_enter RX5 [some (.ref (ad 0 0)), some (.int 0), some (.int v), none] rfl (by decide) (by simp [Value.category]) (Nat.le_of_ble_eq_true rfl) rfl ?_
  intro p e s m args below meth c K hnm hX
  have hc9 := hI.2.2.2.2.1 0 (by decide)
  obtain ⟨hc, hc12⟩ := hc9
  refine j_aload_n K 0 dX5_deliverTin_0 rfl rfl ?_
  refine j_iload_n K 1 dX5_deliverTin_1 rfl rfl ?_
  refine j_cV1r K dX5_deliverTin_2 m_X5_tinsOf v_X5_tinsOf k_X5_164 rfl ⟨by decide, rfl⟩ rfl c_tO0 (Nat.le_of_ble_eq_true rfl) ⟨by decide, by decide⟩ (by decide) (by decide) ?_
  refine j_astore_n K 3 dX5_deliverTin_5 rfl (by decide) ?_
  refine j_iload_n K 2 dX5_deliverTin_6 rfl rfl ?_
  refine j_iconst K 1 dX5_deliverTin_7 rfl ?_
  refine j_sipush K 999 dX5_deliverTin_8 rfl ?_
  refine j_cS3n K dX5_deliverTin_11 m_X5_demandWithin s_X5_demandWithin k_X5_55 (c_dW _ _ _ hv) (Nat.le_of_ble_eq_true rfl) ⟨by decide, by decide⟩ (by decide) (by decide) ?_
  refine j_aload_n K 3 dX5_deliverTin_14 rfl rfl ?_
  refine jGi K dX5_deliverTin_15 f_X5_168 rfl rfl rfl ?_
  refine j_bipush K 12 dX5_deliverTin_18 rfl ?_
  refine j_icmp_lt K 33 dX5_deliverTin_20 (by decide) (fun h_20 => ?_) (fun h_20 => ?_)
  · refine j_aload_n K 3 dX5_deliverTin_33 rfl rfl ?_
    refine j_iload_n K 2 dX5_deliverTin_34 rfl rfl ?_
    refine j_cV1n K dX5_deliverTin_35 m_X4_add v_X4_add k_X5_171 rfl ⟨by decide, rfl⟩ rfl (c_X4_add _ rfl hc h12) (Nat.le_of_ble_eq_true rfl) ⟨by decide, by decide⟩ (by decide) (by decide) ?_
    refine j_aload_n K 3 dX5_deliverTin_38 rfl rfl ?_
    refine jGi K dX5_deliverTin_39 f_X5_168 rfl rfl rfl ?_
    refine j_iret K dX5_deliverTin_42 ?_
    exact ⟨rfl, rfl⟩
  · exact absurd ((nlt (by omega) (by decide) hc (b := 12) rfl).mpr h12) h_20
set_option maxRecDepth 20000 in
set_option maxHeartbeats 400000 in
theorem c_deliverTin0x3 {l : Launch} {D : va_G} {ca : Nat → ClassId} {q0 : Nat} {sa : Nat → Nat} {ad : jAd} {z n : Nat} {V : jV} (v : Int32) (hI : XI n V) (hv : 1 ≤ v ∧ v ≤ 999) (h12 : ¬ (tn (V 4 0 1)) < 12) : jMet l D ca q0 sa ad yX5_deliverTin cX5_deliverTin 4 (some .int) 2 1 6 [.ref (ad 0 0), .int 0, .int v] (jS z n V) (jExc "java/lang/IllegalStateException" (jS z n V)) := by
  refine j_enter RX5 [some (.ref (ad 0 0)), some (.int 0), some (.int v), none] rfl (by decide) (by simp [Value.category]) (Nat.le_of_ble_eq_true rfl) rfl ?_
  intro p e s m args below meth c K hnm hX
  have hc9 := hI.2.2.2.2.1 0 (by decide)
  obtain ⟨hc, hc12⟩ := hc9
  refine j_aload_n K 0 dX5_deliverTin_0 rfl rfl ?_
  refine j_iload_n K 1 dX5_deliverTin_1 rfl rfl ?_
  refine j_cV1r K dX5_deliverTin_2 m_X5_tinsOf v_X5_tinsOf k_X5_164 rfl ⟨by decide, rfl⟩ rfl c_tO0 (Nat.le_of_ble_eq_true rfl) ⟨by decide, by decide⟩ (by decide) (by decide) ?_
  refine j_astore_n K 3 dX5_deliverTin_5 rfl (by decide) ?_
  refine j_iload_n K 2 dX5_deliverTin_6 rfl rfl ?_
  refine j_iconst K 1 dX5_deliverTin_7 rfl ?_
  refine j_sipush K 999 dX5_deliverTin_8 rfl ?_
  refine j_cS3n K dX5_deliverTin_11 m_X5_demandWithin s_X5_demandWithin k_X5_55 (c_dW _ _ _ hv) (Nat.le_of_ble_eq_true rfl) ⟨by decide, by decide⟩ (by decide) (by decide) ?_
  refine j_aload_n K 3 dX5_deliverTin_14 rfl rfl ?_
  refine jGi K dX5_deliverTin_15 f_X5_168 rfl rfl rfl ?_
  refine j_bipush K 12 dX5_deliverTin_18 rfl ?_
  refine j_icmp_lt K 33 dX5_deliverTin_20 (by decide) (fun h_20 => ?_) (fun h_20 => ?_)
  · exact absurd (nlt1 h_20 hc (b := 12) rfl (by omega) (by decide)) h12
  · exact j_throw (text := "there are 12 tins of this colour") K hX thr_ISE (by decide +kernel) dX5_deliverTin_23 dX5_deliverTin_26 dX5_deliverTin_27 dX5_deliverTin_29 dX5_deliverTin_32 (by decide) (by decide) (Nat.le_of_ble_eq_true rfl) (fun _ => ⟨rfl, rfl⟩)
set_option maxRecDepth 20000 in
set_option maxHeartbeats 400000 in
theorem c_deliverTin0x2 {l : Launch} {D : va_G} {ca : Nat → ClassId} {q0 : Nat} {sa : Nat → Nat} {ad : jAd} {z n : Nat} {V : jV} (v : Int32) (h : ¬ (1 ≤ v ∧ v ≤ 999)) : jMet l D ca q0 sa ad yX5_deliverTin cX5_deliverTin 4 (some .int) 2 1 6 [.ref (ad 0 0), .int 0, .int v] (jS z n V) (jExc "java/lang/IllegalArgumentException" (jS z n V)) := by
  refine j_enter RX5 [some (.ref (ad 0 0)), some (.int 0), some (.int v), none] rfl (by decide) (by simp [Value.category]) (Nat.le_of_ble_eq_true rfl) rfl ?_
  intro p e s m args below meth c K hnm hX
  refine j_aload_n K 0 dX5_deliverTin_0 rfl rfl ?_
  refine j_iload_n K 1 dX5_deliverTin_1 rfl rfl ?_
  refine j_cV1r K dX5_deliverTin_2 m_X5_tinsOf v_X5_tinsOf k_X5_164 rfl ⟨by decide, rfl⟩ rfl c_tO0 (Nat.le_of_ble_eq_true rfl) ⟨by decide, by decide⟩ (by decide) (by decide) ?_
  refine j_astore_n K 3 dX5_deliverTin_5 rfl (by decide) ?_
  refine j_iload_n K 2 dX5_deliverTin_6 rfl rfl ?_
  refine j_iconst K 1 dX5_deliverTin_7 rfl ?_
  refine j_sipush K 999 dX5_deliverTin_8 rfl ?_
  exact j_cS3x K dX5_deliverTin_11 m_X5_demandWithin s_X5_demandWithin k_X5_55 (c_dWx _ _ _ h) (Nat.le_of_ble_eq_true rfl) ⟨by decide, by decide⟩ (by decide) (by decide) hX (fun _ => ⟨rfl, rfl⟩)
set_option maxRecDepth 20000 in
set_option maxHeartbeats 400000 in
theorem c_tinCount0 {l : Launch} {D : va_G} {ca : Nat → ClassId} {q0 : Nat} {sa : Nat → Nat} {ad : jAd} {z n : Nat} {V : jV}  : jMet l D ca q0 sa ad yX5_tinCount cX5_tinCount 2 (some .int) 2 0 0 [.ref (ad 0 0), .int 0] (jS z n V) (jRet (some (.int (V 4 0 1))) (jS z n V)) := by
  refine j_enter RX5 [some (.ref (ad 0 0)), some (.int 0)] rfl (by decide) (by simp [Value.category]) (Nat.le_of_ble_eq_true rfl) rfl ?_
  intro p e s m args below meth c K hnm hX
  refine j_aload_n K 0 dX5_tinCount_0 rfl rfl ?_
  refine j_iload_n K 1 dX5_tinCount_1 rfl rfl ?_
  refine j_cV1r K dX5_tinCount_2 m_X5_tinsOf v_X5_tinsOf k_X5_164 rfl ⟨by decide, rfl⟩ rfl c_tO0 (Nat.le_of_ble_eq_true rfl) ⟨by decide, by decide⟩ (by decide) (by decide) ?_
  refine jGi K dX5_tinCount_5 f_X5_168 rfl rfl rfl ?_
  refine j_iret K dX5_tinCount_8 ?_
  exact ⟨rfl, rfl⟩
set_option maxRecDepth 20000 in
set_option maxHeartbeats 400000 in
theorem c_paintLeft0 {l : Launch} {D : va_G} {ca : Nat → ClassId} {q0 : Nat} {sa : Nat → Nat} {ad : jAd} {z n : Nat} {V : jV}  (hI : XI n V)  : jMet l D ca q0 sa ad yX5_paintLeft cX5_paintLeft 3 (some .int) 2 0 0 [.ref (ad 0 0), .int 0] (jS z n V) (jRet (some (.int (sumT (tcon V 0) (tn (V 4 0 1))))) (jS z n V)) := by
  refine j_enter RX5 [some (.ref (ad 0 0)), some (.int 0), none] rfl (by decide) (by simp [Value.category]) (Nat.le_of_ble_eq_true rfl) rfl ?_
  intro p e s m args below meth c K hnm hX
  have hc9 := hI.2.2.2.2.1 0 (by decide)
  obtain ⟨hc, hc12⟩ := hc9
  refine j_aload_n K 0 dX5_paintLeft_0 rfl rfl ?_
  refine j_iload_n K 1 dX5_paintLeft_1 rfl rfl ?_
  refine j_cV1r K dX5_paintLeft_2 m_X5_tinsOf v_X5_tinsOf k_X5_164 rfl ⟨by decide, rfl⟩ rfl c_tO0 (Nat.le_of_ble_eq_true rfl) ⟨by decide, by decide⟩ (by decide) (by decide) ?_
  refine j_astore_n K 2 dX5_paintLeft_5 rfl (by decide) ?_
  refine j_aload_n K 2 dX5_paintLeft_6 rfl rfl ?_
  refine j_aload_n K 2 dX5_paintLeft_7 rfl rfl ?_
  refine jGi K dX5_paintLeft_8 f_X5_168 rfl rfl rfl ?_
  refine j_cV1r K dX5_paintLeft_11 m_X4_inOldest v_X4_inOldest k_X5_174 rfl ⟨by decide, rfl⟩ rfl (c_X4_inOldest _ rfl hc hc12) (Nat.le_of_ble_eq_true rfl) ⟨by decide, by decide⟩ (by decide) (by decide) ?_
  refine j_iret K dX5_paintLeft_14 ?_
  exact ⟨rfl, rfl⟩
set_option maxRecDepth 20000 in
set_option maxHeartbeats 400000 in
theorem c_oldestTin0 {l : Launch} {D : va_G} {ca : Nat → ClassId} {q0 : Nat} {sa : Nat → Nat} {ad : jAd} {z n : Nat} {V : jV}  (h0 : ¬ V 4 0 1 = 0) : jMet l D ca q0 sa ad yX5_oldestTin cX5_oldestTin 3 (some .int) 2 0 0 [.ref (ad 0 0), .int 0] (jS z n V) (jRet (some (.int (V 5 0 0))) (jS z n V)) := by
  refine j_enter RX5 [some (.ref (ad 0 0)), some (.int 0), none] rfl (by decide) (by simp [Value.category]) (Nat.le_of_ble_eq_true rfl) rfl ?_
  intro p e s m args below meth c K hnm hX
  refine j_aload_n K 0 dX5_oldestTin_0 rfl rfl ?_
  refine j_iload_n K 1 dX5_oldestTin_1 rfl rfl ?_
  refine j_cV1r K dX5_oldestTin_2 m_X5_tinsOf v_X5_tinsOf k_X5_164 rfl ⟨by decide, rfl⟩ rfl c_tO0 (Nat.le_of_ble_eq_true rfl) ⟨by decide, by decide⟩ (by decide) (by decide) ?_
  refine j_astore_n K 2 dX5_oldestTin_5 rfl (by decide) ?_
  refine j_aload_n K 2 dX5_oldestTin_6 rfl rfl ?_
  refine jGi K dX5_oldestTin_7 f_X5_168 rfl rfl rfl ?_
  refine j_if_ne K 23 dX5_oldestTin_10 (by decide) (fun h_10 => ?_) (fun h_10 => ?_)
  · refine j_aload_n K 2 dX5_oldestTin_23 rfl rfl ?_
    refine jGr K 5 0 dX5_oldestTin_24 f_X5_179 rfl rfl rfl rfl ?_
    refine j_iconst K 0 dX5_oldestTin_27 rfl ?_
    refine jIald K (0) dX5_oldestTin_28 rfl rfl rfl (by omega) ?_
    refine j_iret K dX5_oldestTin_29 ?_
    exact ⟨rfl, rfl⟩
  · exact absurd h_10 h0
set_option maxRecDepth 20000 in
set_option maxHeartbeats 400000 in
theorem c_oldestTin0x2 {l : Launch} {D : va_G} {ca : Nat → ClassId} {q0 : Nat} {sa : Nat → Nat} {ad : jAd} {z n : Nat} {V : jV}  (h0 : V 4 0 1 = 0) : jMet l D ca q0 sa ad yX5_oldestTin cX5_oldestTin 3 (some .int) 2 1 6 [.ref (ad 0 0), .int 0] (jS z n V) (jExc ns_C (jS z n V)) := by
  refine j_enter RX5 [some (.ref (ad 0 0)), some (.int 0), none] rfl (by decide) (by simp [Value.category]) (Nat.le_of_ble_eq_true rfl) rfl ?_
  intro p e s m args below meth c K hnm hX
  refine j_aload_n K 0 dX5_oldestTin_0 rfl rfl ?_
  refine j_iload_n K 1 dX5_oldestTin_1 rfl rfl ?_
  refine j_cV1r K dX5_oldestTin_2 m_X5_tinsOf v_X5_tinsOf k_X5_164 rfl ⟨by decide, rfl⟩ rfl c_tO0 (Nat.le_of_ble_eq_true rfl) ⟨by decide, by decide⟩ (by decide) (by decide) ?_
  refine j_astore_n K 2 dX5_oldestTin_5 rfl (by decide) ?_
  refine j_aload_n K 2 dX5_oldestTin_6 rfl rfl ?_
  refine jGi K dX5_oldestTin_7 f_X5_168 rfl rfl rfl ?_
  refine j_if_ne K 23 dX5_oldestTin_10 (by decide) (fun h_10 => ?_) (fun h_10 => ?_)
  · exact absurd h0 h_10
  · exact j_throwN (text := "no tin") K hX thr_NSE (by decide +kernel) dX5_oldestTin_13 dX5_oldestTin_16 dX5_oldestTin_17 dX5_oldestTin_19 dX5_oldestTin_22 (by decide) (by decide) (Nat.le_of_ble_eq_true rfl) (fun _ => ⟨rfl, rfl⟩)
set_option maxRecDepth 20000 in
set_option maxHeartbeats 400000 in
theorem c_deliverTin1 {l : Launch} {D : va_G} {ca : Nat → ClassId} {q0 : Nat} {sa : Nat → Nat} {ad : jAd} {z n : Nat} {V : jV} (v : Int32) (hI : XI n V) (hv : 1 ≤ v ∧ v ≤ 999) (h12 : (tn (V 4 1 1)) < 12) : jMet l D ca q0 sa ad yX5_deliverTin cX5_deliverTin 4 (some .int) 2 0 0 [.ref (ad 0 0), .int 1, .int v] (jS z n V) (jRet (some (.int (V 4 1 1 + 1))) (jS z n (addV V 1 (tn (V 4 1 1)) v))) := by
  refine j_enter RX5 [some (.ref (ad 0 0)), some (.int 1), some (.int v), none] rfl (by decide) (by simp [Value.category]) (Nat.le_of_ble_eq_true rfl) rfl ?_
  intro p e s m args below meth c K hnm hX
  have hc9 := hI.2.2.2.2.1 1 (by decide)
  obtain ⟨hc, hc12⟩ := hc9
  refine j_aload_n K 0 dX5_deliverTin_0 rfl rfl ?_
  refine j_iload_n K 1 dX5_deliverTin_1 rfl rfl ?_
  refine j_cV1r K dX5_deliverTin_2 m_X5_tinsOf v_X5_tinsOf k_X5_164 rfl ⟨by decide, rfl⟩ rfl c_tO1 (Nat.le_of_ble_eq_true rfl) ⟨by decide, by decide⟩ (by decide) (by decide) ?_
  refine j_astore_n K 3 dX5_deliverTin_5 rfl (by decide) ?_
  refine j_iload_n K 2 dX5_deliverTin_6 rfl rfl ?_
  refine j_iconst K 1 dX5_deliverTin_7 rfl ?_
  refine j_sipush K 999 dX5_deliverTin_8 rfl ?_
  refine j_cS3n K dX5_deliverTin_11 m_X5_demandWithin s_X5_demandWithin k_X5_55 (c_dW _ _ _ hv) (Nat.le_of_ble_eq_true rfl) ⟨by decide, by decide⟩ (by decide) (by decide) ?_
  refine j_aload_n K 3 dX5_deliverTin_14 rfl rfl ?_
  refine jGi K dX5_deliverTin_15 f_X5_168 rfl rfl rfl ?_
  refine j_bipush K 12 dX5_deliverTin_18 rfl ?_
  refine j_icmp_lt K 33 dX5_deliverTin_20 (by decide) (fun h_20 => ?_) (fun h_20 => ?_)
  · refine j_aload_n K 3 dX5_deliverTin_33 rfl rfl ?_
    refine j_iload_n K 2 dX5_deliverTin_34 rfl rfl ?_
    refine j_cV1n K dX5_deliverTin_35 m_X4_add v_X4_add k_X5_171 rfl ⟨by decide, rfl⟩ rfl (c_X4_add _ rfl hc h12) (Nat.le_of_ble_eq_true rfl) ⟨by decide, by decide⟩ (by decide) (by decide) ?_
    refine j_aload_n K 3 dX5_deliverTin_38 rfl rfl ?_
    refine jGi K dX5_deliverTin_39 f_X5_168 rfl rfl rfl ?_
    refine j_iret K dX5_deliverTin_42 ?_
    exact ⟨rfl, rfl⟩
  · exact absurd ((nlt (by omega) (by decide) hc (b := 12) rfl).mpr h12) h_20
set_option maxRecDepth 20000 in
set_option maxHeartbeats 400000 in
theorem c_deliverTin1x3 {l : Launch} {D : va_G} {ca : Nat → ClassId} {q0 : Nat} {sa : Nat → Nat} {ad : jAd} {z n : Nat} {V : jV} (v : Int32) (hI : XI n V) (hv : 1 ≤ v ∧ v ≤ 999) (h12 : ¬ (tn (V 4 1 1)) < 12) : jMet l D ca q0 sa ad yX5_deliverTin cX5_deliverTin 4 (some .int) 2 1 6 [.ref (ad 0 0), .int 1, .int v] (jS z n V) (jExc "java/lang/IllegalStateException" (jS z n V)) := by
  refine j_enter RX5 [some (.ref (ad 0 0)), some (.int 1), some (.int v), none] rfl (by decide) (by simp [Value.category]) (Nat.le_of_ble_eq_true rfl) rfl ?_
  intro p e s m args below meth c K hnm hX
  have hc9 := hI.2.2.2.2.1 1 (by decide)
  obtain ⟨hc, hc12⟩ := hc9
  refine j_aload_n K 0 dX5_deliverTin_0 rfl rfl ?_
  refine j_iload_n K 1 dX5_deliverTin_1 rfl rfl ?_
  refine j_cV1r K dX5_deliverTin_2 m_X5_tinsOf v_X5_tinsOf k_X5_164 rfl ⟨by decide, rfl⟩ rfl c_tO1 (Nat.le_of_ble_eq_true rfl) ⟨by decide, by decide⟩ (by decide) (by decide) ?_
  refine j_astore_n K 3 dX5_deliverTin_5 rfl (by decide) ?_
  refine j_iload_n K 2 dX5_deliverTin_6 rfl rfl ?_
  refine j_iconst K 1 dX5_deliverTin_7 rfl ?_
  refine j_sipush K 999 dX5_deliverTin_8 rfl ?_
  refine j_cS3n K dX5_deliverTin_11 m_X5_demandWithin s_X5_demandWithin k_X5_55 (c_dW _ _ _ hv) (Nat.le_of_ble_eq_true rfl) ⟨by decide, by decide⟩ (by decide) (by decide) ?_
  refine j_aload_n K 3 dX5_deliverTin_14 rfl rfl ?_
  refine jGi K dX5_deliverTin_15 f_X5_168 rfl rfl rfl ?_
  refine j_bipush K 12 dX5_deliverTin_18 rfl ?_
  refine j_icmp_lt K 33 dX5_deliverTin_20 (by decide) (fun h_20 => ?_) (fun h_20 => ?_)
  · exact absurd (nlt1 h_20 hc (b := 12) rfl (by omega) (by decide)) h12
  · exact j_throw (text := "there are 12 tins of this colour") K hX thr_ISE (by decide +kernel) dX5_deliverTin_23 dX5_deliverTin_26 dX5_deliverTin_27 dX5_deliverTin_29 dX5_deliverTin_32 (by decide) (by decide) (Nat.le_of_ble_eq_true rfl) (fun _ => ⟨rfl, rfl⟩)
set_option maxRecDepth 20000 in
set_option maxHeartbeats 400000 in
theorem c_deliverTin1x2 {l : Launch} {D : va_G} {ca : Nat → ClassId} {q0 : Nat} {sa : Nat → Nat} {ad : jAd} {z n : Nat} {V : jV} (v : Int32) (h : ¬ (1 ≤ v ∧ v ≤ 999)) : jMet l D ca q0 sa ad yX5_deliverTin cX5_deliverTin 4 (some .int) 2 1 6 [.ref (ad 0 0), .int 1, .int v] (jS z n V) (jExc "java/lang/IllegalArgumentException" (jS z n V)) := by
  refine j_enter RX5 [some (.ref (ad 0 0)), some (.int 1), some (.int v), none] rfl (by decide) (by simp [Value.category]) (Nat.le_of_ble_eq_true rfl) rfl ?_
  intro p e s m args below meth c K hnm hX
  refine j_aload_n K 0 dX5_deliverTin_0 rfl rfl ?_
  refine j_iload_n K 1 dX5_deliverTin_1 rfl rfl ?_
  refine j_cV1r K dX5_deliverTin_2 m_X5_tinsOf v_X5_tinsOf k_X5_164 rfl ⟨by decide, rfl⟩ rfl c_tO1 (Nat.le_of_ble_eq_true rfl) ⟨by decide, by decide⟩ (by decide) (by decide) ?_
  refine j_astore_n K 3 dX5_deliverTin_5 rfl (by decide) ?_
  refine j_iload_n K 2 dX5_deliverTin_6 rfl rfl ?_
  refine j_iconst K 1 dX5_deliverTin_7 rfl ?_
  refine j_sipush K 999 dX5_deliverTin_8 rfl ?_
  exact j_cS3x K dX5_deliverTin_11 m_X5_demandWithin s_X5_demandWithin k_X5_55 (c_dWx _ _ _ h) (Nat.le_of_ble_eq_true rfl) ⟨by decide, by decide⟩ (by decide) (by decide) hX (fun _ => ⟨rfl, rfl⟩)
set_option maxRecDepth 20000 in
set_option maxHeartbeats 400000 in
theorem c_tinCount1 {l : Launch} {D : va_G} {ca : Nat → ClassId} {q0 : Nat} {sa : Nat → Nat} {ad : jAd} {z n : Nat} {V : jV}  : jMet l D ca q0 sa ad yX5_tinCount cX5_tinCount 2 (some .int) 2 0 0 [.ref (ad 0 0), .int 1] (jS z n V) (jRet (some (.int (V 4 1 1))) (jS z n V)) := by
  refine j_enter RX5 [some (.ref (ad 0 0)), some (.int 1)] rfl (by decide) (by simp [Value.category]) (Nat.le_of_ble_eq_true rfl) rfl ?_
  intro p e s m args below meth c K hnm hX
  refine j_aload_n K 0 dX5_tinCount_0 rfl rfl ?_
  refine j_iload_n K 1 dX5_tinCount_1 rfl rfl ?_
  refine j_cV1r K dX5_tinCount_2 m_X5_tinsOf v_X5_tinsOf k_X5_164 rfl ⟨by decide, rfl⟩ rfl c_tO1 (Nat.le_of_ble_eq_true rfl) ⟨by decide, by decide⟩ (by decide) (by decide) ?_
  refine jGi K dX5_tinCount_5 f_X5_168 rfl rfl rfl ?_
  refine j_iret K dX5_tinCount_8 ?_
  exact ⟨rfl, rfl⟩
set_option maxRecDepth 20000 in
set_option maxHeartbeats 400000 in
theorem c_paintLeft1 {l : Launch} {D : va_G} {ca : Nat → ClassId} {q0 : Nat} {sa : Nat → Nat} {ad : jAd} {z n : Nat} {V : jV}  (hI : XI n V)  : jMet l D ca q0 sa ad yX5_paintLeft cX5_paintLeft 3 (some .int) 2 0 0 [.ref (ad 0 0), .int 1] (jS z n V) (jRet (some (.int (sumT (tcon V 1) (tn (V 4 1 1))))) (jS z n V)) := by
  refine j_enter RX5 [some (.ref (ad 0 0)), some (.int 1), none] rfl (by decide) (by simp [Value.category]) (Nat.le_of_ble_eq_true rfl) rfl ?_
  intro p e s m args below meth c K hnm hX
  have hc9 := hI.2.2.2.2.1 1 (by decide)
  obtain ⟨hc, hc12⟩ := hc9
  refine j_aload_n K 0 dX5_paintLeft_0 rfl rfl ?_
  refine j_iload_n K 1 dX5_paintLeft_1 rfl rfl ?_
  refine j_cV1r K dX5_paintLeft_2 m_X5_tinsOf v_X5_tinsOf k_X5_164 rfl ⟨by decide, rfl⟩ rfl c_tO1 (Nat.le_of_ble_eq_true rfl) ⟨by decide, by decide⟩ (by decide) (by decide) ?_
  refine j_astore_n K 2 dX5_paintLeft_5 rfl (by decide) ?_
  refine j_aload_n K 2 dX5_paintLeft_6 rfl rfl ?_
  refine j_aload_n K 2 dX5_paintLeft_7 rfl rfl ?_
  refine jGi K dX5_paintLeft_8 f_X5_168 rfl rfl rfl ?_
  refine j_cV1r K dX5_paintLeft_11 m_X4_inOldest v_X4_inOldest k_X5_174 rfl ⟨by decide, rfl⟩ rfl (c_X4_inOldest _ rfl hc hc12) (Nat.le_of_ble_eq_true rfl) ⟨by decide, by decide⟩ (by decide) (by decide) ?_
  refine j_iret K dX5_paintLeft_14 ?_
  exact ⟨rfl, rfl⟩
set_option maxRecDepth 20000 in
set_option maxHeartbeats 400000 in
theorem c_oldestTin1 {l : Launch} {D : va_G} {ca : Nat → ClassId} {q0 : Nat} {sa : Nat → Nat} {ad : jAd} {z n : Nat} {V : jV}  (h0 : ¬ V 4 1 1 = 0) : jMet l D ca q0 sa ad yX5_oldestTin cX5_oldestTin 3 (some .int) 2 0 0 [.ref (ad 0 0), .int 1] (jS z n V) (jRet (some (.int (V 5 1 0))) (jS z n V)) := by
  refine j_enter RX5 [some (.ref (ad 0 0)), some (.int 1), none] rfl (by decide) (by simp [Value.category]) (Nat.le_of_ble_eq_true rfl) rfl ?_
  intro p e s m args below meth c K hnm hX
  refine j_aload_n K 0 dX5_oldestTin_0 rfl rfl ?_
  refine j_iload_n K 1 dX5_oldestTin_1 rfl rfl ?_
  refine j_cV1r K dX5_oldestTin_2 m_X5_tinsOf v_X5_tinsOf k_X5_164 rfl ⟨by decide, rfl⟩ rfl c_tO1 (Nat.le_of_ble_eq_true rfl) ⟨by decide, by decide⟩ (by decide) (by decide) ?_
  refine j_astore_n K 2 dX5_oldestTin_5 rfl (by decide) ?_
  refine j_aload_n K 2 dX5_oldestTin_6 rfl rfl ?_
  refine jGi K dX5_oldestTin_7 f_X5_168 rfl rfl rfl ?_
  refine j_if_ne K 23 dX5_oldestTin_10 (by decide) (fun h_10 => ?_) (fun h_10 => ?_)
  · refine j_aload_n K 2 dX5_oldestTin_23 rfl rfl ?_
    refine jGr K 5 1 dX5_oldestTin_24 f_X5_179 rfl rfl rfl rfl ?_
    refine j_iconst K 0 dX5_oldestTin_27 rfl ?_
    refine jIald K (0) dX5_oldestTin_28 rfl rfl rfl (by omega) ?_
    refine j_iret K dX5_oldestTin_29 ?_
    exact ⟨rfl, rfl⟩
  · exact absurd h_10 h0
set_option maxRecDepth 20000 in
set_option maxHeartbeats 400000 in
theorem c_oldestTin1x2 {l : Launch} {D : va_G} {ca : Nat → ClassId} {q0 : Nat} {sa : Nat → Nat} {ad : jAd} {z n : Nat} {V : jV}  (h0 : V 4 1 1 = 0) : jMet l D ca q0 sa ad yX5_oldestTin cX5_oldestTin 3 (some .int) 2 1 6 [.ref (ad 0 0), .int 1] (jS z n V) (jExc ns_C (jS z n V)) := by
  refine j_enter RX5 [some (.ref (ad 0 0)), some (.int 1), none] rfl (by decide) (by simp [Value.category]) (Nat.le_of_ble_eq_true rfl) rfl ?_
  intro p e s m args below meth c K hnm hX
  refine j_aload_n K 0 dX5_oldestTin_0 rfl rfl ?_
  refine j_iload_n K 1 dX5_oldestTin_1 rfl rfl ?_
  refine j_cV1r K dX5_oldestTin_2 m_X5_tinsOf v_X5_tinsOf k_X5_164 rfl ⟨by decide, rfl⟩ rfl c_tO1 (Nat.le_of_ble_eq_true rfl) ⟨by decide, by decide⟩ (by decide) (by decide) ?_
  refine j_astore_n K 2 dX5_oldestTin_5 rfl (by decide) ?_
  refine j_aload_n K 2 dX5_oldestTin_6 rfl rfl ?_
  refine jGi K dX5_oldestTin_7 f_X5_168 rfl rfl rfl ?_
  refine j_if_ne K 23 dX5_oldestTin_10 (by decide) (fun h_10 => ?_) (fun h_10 => ?_)
  · exact absurd h0 h_10
  · exact j_throwN (text := "no tin") K hX thr_NSE (by decide +kernel) dX5_oldestTin_13 dX5_oldestTin_16 dX5_oldestTin_17 dX5_oldestTin_19 dX5_oldestTin_22 (by decide) (by decide) (Nat.le_of_ble_eq_true rfl) (fun _ => ⟨rfl, rfl⟩)
set_option maxRecDepth 20000 in
set_option maxHeartbeats 400000 in
theorem c_deliverTinx1 {l : Launch} {D : va_G} {ca : Nat → ClassId} {q0 : Nat} {sa : Nat → Nat} {ad : jAd} {z n : Nat} {V : jV} (x v : Int32) (h : ¬ (0 ≤ x ∧ x ≤ 1)) : jMet l D ca q0 sa ad yX5_deliverTin cX5_deliverTin 4 (some .int) 2 1 6 [.ref (ad 0 0), .int x, .int v] (jS z n V) (jExc "java/lang/IllegalArgumentException" (jS z n V)) := by
  refine j_enter RX5 [some (.ref (ad 0 0)), some (.int x), some (.int v), none] rfl (by decide) (by simp [Value.category]) (Nat.le_of_ble_eq_true rfl) rfl ?_
  intro p e s m args below meth c K hnm hX
  refine j_aload_n K 0 dX5_deliverTin_0 rfl rfl ?_
  refine j_iload_n K 1 dX5_deliverTin_1 rfl rfl ?_
  exact j_cV1x K dX5_deliverTin_2 m_X5_tinsOf v_X5_tinsOf k_X5_164 rfl ⟨by decide, rfl⟩ rfl (c_tOx _ h) (Nat.le_of_ble_eq_true rfl) ⟨by decide, by decide⟩ (by decide) (by decide) hX (fun _ => ⟨rfl, rfl⟩)
set_option maxRecDepth 20000 in
set_option maxHeartbeats 400000 in
theorem c_tinCountx1 {l : Launch} {D : va_G} {ca : Nat → ClassId} {q0 : Nat} {sa : Nat → Nat} {ad : jAd} {z n : Nat} {V : jV} (x : Int32) (h : ¬ (0 ≤ x ∧ x ≤ 1)) : jMet l D ca q0 sa ad yX5_tinCount cX5_tinCount 2 (some .int) 2 1 6 [.ref (ad 0 0), .int x] (jS z n V) (jExc "java/lang/IllegalArgumentException" (jS z n V)) := by
  refine j_enter RX5 [some (.ref (ad 0 0)), some (.int x)] rfl (by decide) (by simp [Value.category]) (Nat.le_of_ble_eq_true rfl) rfl ?_
  intro p e s m args below meth c K hnm hX
  refine j_aload_n K 0 dX5_tinCount_0 rfl rfl ?_
  refine j_iload_n K 1 dX5_tinCount_1 rfl rfl ?_
  exact j_cV1x K dX5_tinCount_2 m_X5_tinsOf v_X5_tinsOf k_X5_164 rfl ⟨by decide, rfl⟩ rfl (c_tOx _ h) (Nat.le_of_ble_eq_true rfl) ⟨by decide, by decide⟩ (by decide) (by decide) hX (fun _ => ⟨rfl, rfl⟩)
set_option maxRecDepth 20000 in
set_option maxHeartbeats 400000 in
theorem c_paintLeftx1 {l : Launch} {D : va_G} {ca : Nat → ClassId} {q0 : Nat} {sa : Nat → Nat} {ad : jAd} {z n : Nat} {V : jV} (x : Int32) (h : ¬ (0 ≤ x ∧ x ≤ 1)) : jMet l D ca q0 sa ad yX5_paintLeft cX5_paintLeft 3 (some .int) 2 1 6 [.ref (ad 0 0), .int x] (jS z n V) (jExc "java/lang/IllegalArgumentException" (jS z n V)) := by
  refine j_enter RX5 [some (.ref (ad 0 0)), some (.int x), none] rfl (by decide) (by simp [Value.category]) (Nat.le_of_ble_eq_true rfl) rfl ?_
  intro p e s m args below meth c K hnm hX
  refine j_aload_n K 0 dX5_paintLeft_0 rfl rfl ?_
  refine j_iload_n K 1 dX5_paintLeft_1 rfl rfl ?_
  exact j_cV1x K dX5_paintLeft_2 m_X5_tinsOf v_X5_tinsOf k_X5_164 rfl ⟨by decide, rfl⟩ rfl (c_tOx _ h) (Nat.le_of_ble_eq_true rfl) ⟨by decide, by decide⟩ (by decide) (by decide) hX (fun _ => ⟨rfl, rfl⟩)
set_option maxRecDepth 20000 in
set_option maxHeartbeats 400000 in
theorem c_oldestTinx1 {l : Launch} {D : va_G} {ca : Nat → ClassId} {q0 : Nat} {sa : Nat → Nat} {ad : jAd} {z n : Nat} {V : jV} (x : Int32) (h : ¬ (0 ≤ x ∧ x ≤ 1)) : jMet l D ca q0 sa ad yX5_oldestTin cX5_oldestTin 3 (some .int) 2 1 6 [.ref (ad 0 0), .int x] (jS z n V) (jExc "java/lang/IllegalArgumentException" (jS z n V)) := by
  refine j_enter RX5 [some (.ref (ad 0 0)), some (.int x), none] rfl (by decide) (by simp [Value.category]) (Nat.le_of_ble_eq_true rfl) rfl ?_
  intro p e s m args below meth c K hnm hX
  refine j_aload_n K 0 dX5_oldestTin_0 rfl rfl ?_
  refine j_iload_n K 1 dX5_oldestTin_1 rfl rfl ?_
  exact j_cV1x K dX5_oldestTin_2 m_X5_tinsOf v_X5_tinsOf k_X5_164 rfl ⟨by decide, rfl⟩ rfl (c_tOx _ h) (Nat.le_of_ble_eq_true rfl) ⟨by decide, by decide⟩ (by decide) (by decide) hX (fun _ => ⟨rfl, rfl⟩)
