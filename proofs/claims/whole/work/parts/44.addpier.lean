set_option maxRecDepth 20000 in
set_option maxHeartbeats 400000 in
theorem c_addPierx1 {l : Launch} {D : va_G} {ca : Nat → ClassId} {q0 : Nat} {sa : Nat → Nat} {ad : jAd} {z n : Nat} {V : jV} (b1 b2 b3 b4 b5 : Int32)  (h : ¬ (0 ≤ b1 ∧ b1 ≤ 744))  : jMet l D ca q0 sa ad yX5_addPier cX5_addPier 7 (some .int) 3 1 6 [.ref (ad 0 0), .int b1, .int b2, .int b3, .int b4, .int b5] (jS z n V) (jExc "java/lang/IllegalArgumentException" (jS z n V)) := by
  refine j_enter RX5 [some (.ref (ad 0 0)), some (.int b1), some (.int b2), some (.int b3), some (.int b4), some (.int b5), none] rfl (by decide) (by simp [Value.category]) (Nat.le_of_ble_eq_true rfl) rfl ?_
  intro p e s m args below meth c K hnm hX
  refine j_iload_n K 1 dX5_addPier_0 rfl rfl ?_
  refine j_iconst K 0 dX5_addPier_1 rfl ?_
  refine j_sipush K 744 dX5_addPier_2 rfl ?_
  exact j_cS3x K dX5_addPier_5 m_X5_demandWithin s_X5_demandWithin k_X5_55 (c_dWx _ _ _ h) (Nat.le_of_ble_eq_true rfl) ⟨by decide, by decide⟩ (by decide) (by decide) hX (fun _ => ⟨rfl, rfl⟩)
set_option maxRecDepth 20000 in
set_option maxHeartbeats 400000 in
theorem c_addPierx2 {l : Launch} {D : va_G} {ca : Nat → ClassId} {q0 : Nat} {sa : Nat → Nat} {ad : jAd} {z n : Nat} {V : jV} (b1 b2 b3 b4 b5 : Int32) (h1 : 0 ≤ b1 ∧ b1 ≤ 744) (h : ¬ (0 ≤ b2 ∧ b2 ≤ 999))  : jMet l D ca q0 sa ad yX5_addPier cX5_addPier 7 (some .int) 3 1 6 [.ref (ad 0 0), .int b1, .int b2, .int b3, .int b4, .int b5] (jS z n V) (jExc "java/lang/IllegalArgumentException" (jS z n V)) := by
  refine j_enter RX5 [some (.ref (ad 0 0)), some (.int b1), some (.int b2), some (.int b3), some (.int b4), some (.int b5), none] rfl (by decide) (by simp [Value.category]) (Nat.le_of_ble_eq_true rfl) rfl ?_
  intro p e s m args below meth c K hnm hX
  refine j_iload_n K 1 dX5_addPier_0 rfl rfl ?_
  refine j_iconst K 0 dX5_addPier_1 rfl ?_
  refine j_sipush K 744 dX5_addPier_2 rfl ?_
  refine j_cS3n K dX5_addPier_5 m_X5_demandWithin s_X5_demandWithin k_X5_55 (c_dW _ _ _ h1) (Nat.le_of_ble_eq_true rfl) ⟨by decide, by decide⟩ (by decide) (by decide) ?_
  refine j_iload_n K 2 dX5_addPier_8 rfl rfl ?_
  refine j_iconst K 0 dX5_addPier_9 rfl ?_
  refine j_sipush K 999 dX5_addPier_10 rfl ?_
  exact j_cS3x K dX5_addPier_13 m_X5_demandWithin s_X5_demandWithin k_X5_55 (c_dWx _ _ _ h) (Nat.le_of_ble_eq_true rfl) ⟨by decide, by decide⟩ (by decide) (by decide) hX (fun _ => ⟨rfl, rfl⟩)
set_option maxRecDepth 20000 in
set_option maxHeartbeats 400000 in
theorem c_addPierx3 {l : Launch} {D : va_G} {ca : Nat → ClassId} {q0 : Nat} {sa : Nat → Nat} {ad : jAd} {z n : Nat} {V : jV} (b1 b2 b3 b4 b5 : Int32) (h1 : 0 ≤ b1 ∧ b1 ≤ 744) (h2 : 0 ≤ b2 ∧ b2 ≤ 999) (h : ¬ (0 ≤ b3 ∧ b3 ≤ 999))  : jMet l D ca q0 sa ad yX5_addPier cX5_addPier 7 (some .int) 3 1 6 [.ref (ad 0 0), .int b1, .int b2, .int b3, .int b4, .int b5] (jS z n V) (jExc "java/lang/IllegalArgumentException" (jS z n V)) := by
  refine j_enter RX5 [some (.ref (ad 0 0)), some (.int b1), some (.int b2), some (.int b3), some (.int b4), some (.int b5), none] rfl (by decide) (by simp [Value.category]) (Nat.le_of_ble_eq_true rfl) rfl ?_
  intro p e s m args below meth c K hnm hX
  refine j_iload_n K 1 dX5_addPier_0 rfl rfl ?_
  refine j_iconst K 0 dX5_addPier_1 rfl ?_
  refine j_sipush K 744 dX5_addPier_2 rfl ?_
  refine j_cS3n K dX5_addPier_5 m_X5_demandWithin s_X5_demandWithin k_X5_55 (c_dW _ _ _ h1) (Nat.le_of_ble_eq_true rfl) ⟨by decide, by decide⟩ (by decide) (by decide) ?_
  refine j_iload_n K 2 dX5_addPier_8 rfl rfl ?_
  refine j_iconst K 0 dX5_addPier_9 rfl ?_
  refine j_sipush K 999 dX5_addPier_10 rfl ?_
  refine j_cS3n K dX5_addPier_13 m_X5_demandWithin s_X5_demandWithin k_X5_55 (c_dW _ _ _ h2) (Nat.le_of_ble_eq_true rfl) ⟨by decide, by decide⟩ (by decide) (by decide) ?_
  refine j_iload_n K 3 dX5_addPier_16 rfl rfl ?_
  refine j_iconst K 0 dX5_addPier_17 rfl ?_
  refine j_sipush K 999 dX5_addPier_18 rfl ?_
  exact j_cS3x K dX5_addPier_21 m_X5_demandWithin s_X5_demandWithin k_X5_55 (c_dWx _ _ _ h) (Nat.le_of_ble_eq_true rfl) ⟨by decide, by decide⟩ (by decide) (by decide) hX (fun _ => ⟨rfl, rfl⟩)
set_option maxRecDepth 20000 in
set_option maxHeartbeats 400000 in
theorem c_addPierx4 {l : Launch} {D : va_G} {ca : Nat → ClassId} {q0 : Nat} {sa : Nat → Nat} {ad : jAd} {z n : Nat} {V : jV} (b1 b2 b3 b4 b5 : Int32) (h1 : 0 ≤ b1 ∧ b1 ≤ 744) (h2 : 0 ≤ b2 ∧ b2 ≤ 999) (h3 : 0 ≤ b3 ∧ b3 ≤ 999) (h : ¬ (0 ≤ b4 ∧ b4 ≤ b3))  : jMet l D ca q0 sa ad yX5_addPier cX5_addPier 7 (some .int) 3 1 6 [.ref (ad 0 0), .int b1, .int b2, .int b3, .int b4, .int b5] (jS z n V) (jExc "java/lang/IllegalArgumentException" (jS z n V)) := by
  refine j_enter RX5 [some (.ref (ad 0 0)), some (.int b1), some (.int b2), some (.int b3), some (.int b4), some (.int b5), none] rfl (by decide) (by simp [Value.category]) (Nat.le_of_ble_eq_true rfl) rfl ?_
  intro p e s m args below meth c K hnm hX
  refine j_iload_n K 1 dX5_addPier_0 rfl rfl ?_
  refine j_iconst K 0 dX5_addPier_1 rfl ?_
  refine j_sipush K 744 dX5_addPier_2 rfl ?_
  refine j_cS3n K dX5_addPier_5 m_X5_demandWithin s_X5_demandWithin k_X5_55 (c_dW _ _ _ h1) (Nat.le_of_ble_eq_true rfl) ⟨by decide, by decide⟩ (by decide) (by decide) ?_
  refine j_iload_n K 2 dX5_addPier_8 rfl rfl ?_
  refine j_iconst K 0 dX5_addPier_9 rfl ?_
  refine j_sipush K 999 dX5_addPier_10 rfl ?_
  refine j_cS3n K dX5_addPier_13 m_X5_demandWithin s_X5_demandWithin k_X5_55 (c_dW _ _ _ h2) (Nat.le_of_ble_eq_true rfl) ⟨by decide, by decide⟩ (by decide) (by decide) ?_
  refine j_iload_n K 3 dX5_addPier_16 rfl rfl ?_
  refine j_iconst K 0 dX5_addPier_17 rfl ?_
  refine j_sipush K 999 dX5_addPier_18 rfl ?_
  refine j_cS3n K dX5_addPier_21 m_X5_demandWithin s_X5_demandWithin k_X5_55 (c_dW _ _ _ h3) (Nat.le_of_ble_eq_true rfl) ⟨by decide, by decide⟩ (by decide) (by decide) ?_
  refine j_iload K dX5_addPier_24 rfl ?_
  refine j_iconst K 0 dX5_addPier_26 rfl ?_
  refine j_iload_n K 3 dX5_addPier_27 rfl rfl ?_
  exact j_cS3x K dX5_addPier_28 m_X5_demandWithin s_X5_demandWithin k_X5_55 (c_dWx _ _ _ h) (Nat.le_of_ble_eq_true rfl) ⟨by decide, by decide⟩ (by decide) (by decide) hX (fun _ => ⟨rfl, rfl⟩)
set_option maxRecDepth 20000 in
set_option maxHeartbeats 400000 in
theorem c_addPierx5 {l : Launch} {D : va_G} {ca : Nat → ClassId} {q0 : Nat} {sa : Nat → Nat} {ad : jAd} {z n : Nat} {V : jV} (b1 b2 b3 b4 b5 : Int32) (h1 : 0 ≤ b1 ∧ b1 ≤ 744) (h2 : 0 ≤ b2 ∧ b2 ≤ 999) (h3 : 0 ≤ b3 ∧ b3 ≤ 999) (h4 : 0 ≤ b4 ∧ b4 ≤ b3) (h : ¬ (0 ≤ b5 ∧ b5 ≤ 9))  : jMet l D ca q0 sa ad yX5_addPier cX5_addPier 7 (some .int) 3 1 6 [.ref (ad 0 0), .int b1, .int b2, .int b3, .int b4, .int b5] (jS z n V) (jExc "java/lang/IllegalArgumentException" (jS z n V)) := by
  refine j_enter RX5 [some (.ref (ad 0 0)), some (.int b1), some (.int b2), some (.int b3), some (.int b4), some (.int b5), none] rfl (by decide) (by simp [Value.category]) (Nat.le_of_ble_eq_true rfl) rfl ?_
  intro p e s m args below meth c K hnm hX
  refine j_iload_n K 1 dX5_addPier_0 rfl rfl ?_
  refine j_iconst K 0 dX5_addPier_1 rfl ?_
  refine j_sipush K 744 dX5_addPier_2 rfl ?_
  refine j_cS3n K dX5_addPier_5 m_X5_demandWithin s_X5_demandWithin k_X5_55 (c_dW _ _ _ h1) (Nat.le_of_ble_eq_true rfl) ⟨by decide, by decide⟩ (by decide) (by decide) ?_
  refine j_iload_n K 2 dX5_addPier_8 rfl rfl ?_
  refine j_iconst K 0 dX5_addPier_9 rfl ?_
  refine j_sipush K 999 dX5_addPier_10 rfl ?_
  refine j_cS3n K dX5_addPier_13 m_X5_demandWithin s_X5_demandWithin k_X5_55 (c_dW _ _ _ h2) (Nat.le_of_ble_eq_true rfl) ⟨by decide, by decide⟩ (by decide) (by decide) ?_
  refine j_iload_n K 3 dX5_addPier_16 rfl rfl ?_
  refine j_iconst K 0 dX5_addPier_17 rfl ?_
  refine j_sipush K 999 dX5_addPier_18 rfl ?_
  refine j_cS3n K dX5_addPier_21 m_X5_demandWithin s_X5_demandWithin k_X5_55 (c_dW _ _ _ h3) (Nat.le_of_ble_eq_true rfl) ⟨by decide, by decide⟩ (by decide) (by decide) ?_
  refine j_iload K dX5_addPier_24 rfl ?_
  refine j_iconst K 0 dX5_addPier_26 rfl ?_
  refine j_iload_n K 3 dX5_addPier_27 rfl rfl ?_
  refine j_cS3n K dX5_addPier_28 m_X5_demandWithin s_X5_demandWithin k_X5_55 (c_dW _ _ _ h4) (Nat.le_of_ble_eq_true rfl) ⟨by decide, by decide⟩ (by decide) (by decide) ?_
  refine j_iload K dX5_addPier_31 rfl ?_
  refine j_iconst K 0 dX5_addPier_33 rfl ?_
  refine j_bipush K 9 dX5_addPier_34 rfl ?_
  exact j_cS3x K dX5_addPier_36 m_X5_demandWithin s_X5_demandWithin k_X5_55 (c_dWx _ _ _ h) (Nat.le_of_ble_eq_true rfl) ⟨by decide, by decide⟩ (by decide) (by decide) hX (fun _ => ⟨rfl, rfl⟩)
set_option maxRecDepth 20000 in
set_option maxHeartbeats 400000 in
theorem c_addPierx6 {l : Launch} {D : va_G} {ca : Nat → ClassId} {q0 : Nat} {sa : Nat → Nat} {ad : jAd} {z n : Nat} {V : jV} (b1 b2 b3 b4 b5 : Int32) (hA : okA b1 b2 b3 b4 b5) (hn : V 0 0 1 = nI n) (hn6 : n = 6)  : jMet l D ca q0 sa ad yX5_addPier cX5_addPier 7 (some .int) 3 1 6 [.ref (ad 0 0), .int b1, .int b2, .int b3, .int b4, .int b5] (jS z n V) (jExc "java/lang/IllegalStateException" (jS z n V)) := by
  refine j_enter RX5 [some (.ref (ad 0 0)), some (.int b1), some (.int b2), some (.int b3), some (.int b4), some (.int b5), none] rfl (by decide) (by simp [Value.category]) (Nat.le_of_ble_eq_true rfl) rfl ?_
  intro p e s m args below meth c K hnm hX
  refine j_iload_n K 1 dX5_addPier_0 rfl rfl ?_
  refine j_iconst K 0 dX5_addPier_1 rfl ?_
  refine j_sipush K 744 dX5_addPier_2 rfl ?_
  refine j_cS3n K dX5_addPier_5 m_X5_demandWithin s_X5_demandWithin k_X5_55 (c_dW _ _ _ hA.1) (Nat.le_of_ble_eq_true rfl) ⟨by decide, by decide⟩ (by decide) (by decide) ?_
  refine j_iload_n K 2 dX5_addPier_8 rfl rfl ?_
  refine j_iconst K 0 dX5_addPier_9 rfl ?_
  refine j_sipush K 999 dX5_addPier_10 rfl ?_
  refine j_cS3n K dX5_addPier_13 m_X5_demandWithin s_X5_demandWithin k_X5_55 (c_dW _ _ _ hA.2.1) (Nat.le_of_ble_eq_true rfl) ⟨by decide, by decide⟩ (by decide) (by decide) ?_
  refine j_iload_n K 3 dX5_addPier_16 rfl rfl ?_
  refine j_iconst K 0 dX5_addPier_17 rfl ?_
  refine j_sipush K 999 dX5_addPier_18 rfl ?_
  refine j_cS3n K dX5_addPier_21 m_X5_demandWithin s_X5_demandWithin k_X5_55 (c_dW _ _ _ hA.2.2.1) (Nat.le_of_ble_eq_true rfl) ⟨by decide, by decide⟩ (by decide) (by decide) ?_
  refine j_iload K dX5_addPier_24 rfl ?_
  refine j_iconst K 0 dX5_addPier_26 rfl ?_
  refine j_iload_n K 3 dX5_addPier_27 rfl rfl ?_
  refine j_cS3n K dX5_addPier_28 m_X5_demandWithin s_X5_demandWithin k_X5_55 (c_dW _ _ _ hA.2.2.2.1) (Nat.le_of_ble_eq_true rfl) ⟨by decide, by decide⟩ (by decide) (by decide) ?_
  refine j_iload K dX5_addPier_31 rfl ?_
  refine j_iconst K 0 dX5_addPier_33 rfl ?_
  refine j_bipush K 9 dX5_addPier_34 rfl ?_
  refine j_cS3n K dX5_addPier_36 m_X5_demandWithin s_X5_demandWithin k_X5_55 (c_dW _ _ _ hA.2.2.2.2) (Nat.le_of_ble_eq_true rfl) ⟨by decide, by decide⟩ (by decide) (by decide) ?_
  refine j_aload_n K 0 dX5_addPier_39 rfl rfl ?_
  refine jGi K dX5_addPier_40 f_X5_15 rfl rfl rfl ?_
  refine j_bipush K 6 dX5_addPier_43 rfl ?_
  refine j_icmp_lt K 58 dX5_addPier_45 (by decide) (fun h_45 => ?_) (fun h_45 => ?_)
  · exact absurd ((nlt (b := 6) (by omega) (by decide) hn rfl).mp h_45) (by omega)
  · exact j_throw (text := "there are 6 piers") K hX thr_ISE (by decide +kernel) dX5_addPier_48 dX5_addPier_51 dX5_addPier_52 dX5_addPier_54 dX5_addPier_57 (by decide) (by decide) (Nat.le_of_ble_eq_true rfl) (fun _ => ⟨rfl, rfl⟩)
set_option maxRecDepth 20000 in
set_option maxHeartbeats 400000 in
theorem c_addPier {l : Launch} {D : va_G} {ca : Nat → ClassId} {q0 : Nat} {sa : Nat → Nat} {ad : jAd} {z n : Nat} {Lv : jLv} {V : jV} {Rf : jR} (b1 b2 b3 b4 b5 : Int32) (hA : okA b1 b2 b3 b4 b5) (hn : V 0 0 1 = nI n) (hn6 : n < 6) (hk0 : Lv 0 0 = true) (hk1 : Lv 1 0 = true) (hr1 : Rf 0 0 0 = some (1, 0)) (hr2 : Rf 0 0 2 = some (2, 0)) (f10 : Lv 10 n = false) (f15 : Lv 15 n = false) (f6 : Lv 6 n = false) (f7 : Lv 7 n = false) (f8 : Lv 8 n = false) (f9 : Lv 9 n = false) (f16 : Lv 16 n = false) (f17 : Lv 17 n = false) (f11 : Lv 11 n = false) (f12 : Lv 12 n = false) (f13 : Lv 13 n = false) (f14 : Lv 14 n = false) (a10 : ad 10 n = z) (a15 : ad 15 n = z + 1) (a6 : ad 6 n = z + 2) (a7 : ad 7 n = z + 3) (a8 : ad 8 n = z + 4) (a9 : ad 9 n = z + 5) (a16 : ad 16 n = z + 6) (a17 : ad 17 n = z + 7) (a11 : ad 11 n = z + 8) (a12 : ad 12 n = z + 9) (a13 : ad 13 n = z + 10) (a14 : ad 14 n = z + 11) : jMet l D ca q0 sa ad yX5_addPier cX5_addPier 7 (some .int) 3 12 60 [.ref (ad 0 0), .int b1, .int b2, .int b3, .int b4, .int b5] (z, Lv, V, Rf) (jRet (some (.int (nI n))) (z + 12, l1 (upL Lv 10 n) n, (up (v1 (clV V 10 n) n b1 b2 b3 b4 b5) 0 0 1 (nI n + 1)), (upR (r1 (clR Rf 10 n) n) 1 0 n (some (10, n))))) := by
  refine j_enter RX5 [some (.ref (ad 0 0)), some (.int b1), some (.int b2), some (.int b3), some (.int b4), some (.int b5), none] rfl (by decide) (by simp [Value.category]) (Nat.le_of_ble_eq_true rfl) rfl ?_
  intro p e s m args below meth c K hnm hX
  have hk10 : upL Lv 10 n 10 n = true := by simp [upL]
  have hk10b : l1 (upL Lv 10 n) n 10 n = true := by simp [l1, l0, l2, l3, upL]
  refine j_iload_n K 1 dX5_addPier_0 rfl rfl ?_
  refine j_iconst K 0 dX5_addPier_1 rfl ?_
  refine j_sipush K 744 dX5_addPier_2 rfl ?_
  refine j_cS3n K dX5_addPier_5 m_X5_demandWithin s_X5_demandWithin k_X5_55 (c_dW _ _ _ hA.1) (Nat.le_of_ble_eq_true rfl) ⟨by decide, by decide⟩ (by decide) (by decide) ?_
  refine j_iload_n K 2 dX5_addPier_8 rfl rfl ?_
  refine j_iconst K 0 dX5_addPier_9 rfl ?_
  refine j_sipush K 999 dX5_addPier_10 rfl ?_
  refine j_cS3n K dX5_addPier_13 m_X5_demandWithin s_X5_demandWithin k_X5_55 (c_dW _ _ _ hA.2.1) (Nat.le_of_ble_eq_true rfl) ⟨by decide, by decide⟩ (by decide) (by decide) ?_
  refine j_iload_n K 3 dX5_addPier_16 rfl rfl ?_
  refine j_iconst K 0 dX5_addPier_17 rfl ?_
  refine j_sipush K 999 dX5_addPier_18 rfl ?_
  refine j_cS3n K dX5_addPier_21 m_X5_demandWithin s_X5_demandWithin k_X5_55 (c_dW _ _ _ hA.2.2.1) (Nat.le_of_ble_eq_true rfl) ⟨by decide, by decide⟩ (by decide) (by decide) ?_
  refine j_iload K dX5_addPier_24 rfl ?_
  refine j_iconst K 0 dX5_addPier_26 rfl ?_
  refine j_iload_n K 3 dX5_addPier_27 rfl rfl ?_
  refine j_cS3n K dX5_addPier_28 m_X5_demandWithin s_X5_demandWithin k_X5_55 (c_dW _ _ _ hA.2.2.2.1) (Nat.le_of_ble_eq_true rfl) ⟨by decide, by decide⟩ (by decide) (by decide) ?_
  refine j_iload K dX5_addPier_31 rfl ?_
  refine j_iconst K 0 dX5_addPier_33 rfl ?_
  refine j_bipush K 9 dX5_addPier_34 rfl ?_
  refine j_cS3n K dX5_addPier_36 m_X5_demandWithin s_X5_demandWithin k_X5_55 (c_dW _ _ _ hA.2.2.2.2) (Nat.le_of_ble_eq_true rfl) ⟨by decide, by decide⟩ (by decide) (by decide) ?_
  refine j_aload_n K 0 dX5_addPier_39 rfl rfl ?_
  refine jGi K dX5_addPier_40 f_X5_15 rfl hk0 rfl ?_
  refine j_bipush K 6 dX5_addPier_43 rfl ?_
  refine j_icmp_lt K 58 dX5_addPier_45 (by decide) (fun h_45 => ?_) (fun h_45 => ?_)
  · refine j_aload_n K 0 dX5_addPier_58 rfl rfl ?_
    refine jGi K dX5_addPier_59 f_X5_15 rfl hk0 rfl ?_
    refine j_istore K dX5_addPier_62 (by decide) ?_
    refine j_aload_n K 0 dX5_addPier_64 rfl rfl ?_
    refine jGr K 1 0 dX5_addPier_65 f_X5_11 rfl hk0 rfl hr1 ?_
    refine j_iload K dX5_addPier_68 rfl ?_
    refine jNew K 10 n dX5_addPier_70 rfl (by decide) cl_X5_9 in_X1 ii_X1 (by decide +kernel) f10 a10 (by decide) (by decide) ?_
    refine j_dup K dX5_addPier_73 rfl ?_
    refine j_iload_n K 1 dX5_addPier_74 rfl rfl ?_
    refine j_iload_n K 2 dX5_addPier_75 rfl rfl ?_
    refine j_iload_n K 3 dX5_addPier_76 rfl rfl ?_
    refine j_iload K dX5_addPier_77 rfl ?_
    refine j_iload K dX5_addPier_79 rfl ?_
    refine j_aload_n K 0 dX5_addPier_81 rfl rfl ?_
    refine jGr K 2 0 dX5_addPier_82 f_X5_19 rfl hk0 rfl hr2 ?_
    refine j_cI (av := [.int b1, .int b2, .int b3, .int b4, .int b5, .ref (ad 2 0)]) K dX5_addPier_85 m_X1_init i_X1_init k_X5_66 rfl (c_X1_init _ _ _ _ _ hk10 f15 f6 f7 f8 f9 f16 f17 f11 f12 f13 f14 a15 a6 a7 a8 a9 a16 a17 a11 a12 a13 a14) rfl rfl (Nat.le_of_ble_eq_true rfl) ⟨by decide, by decide⟩ (by decide) (by decide) ?_
    refine j_aast K (n) dX5_addPier_88 rfl hk1 hn hn6 rfl hk10b ?_
    refine j_aload_n K 0 dX5_addPier_89 rfl rfl ?_
    refine j_dup K dX5_addPier_90 rfl ?_
    refine jGi K dX5_addPier_91 f_X5_15 rfl hk0 rfl ?_
    refine j_iconst K 1 dX5_addPier_94 rfl ?_
    refine j_iadd K dX5_addPier_95 ?_
    refine jPi K dX5_addPier_96 fo_X5_15 rfl hk0 rfl rfl (Or.inl rfl) ?_
    refine j_iload K dX5_addPier_99 rfl ?_
    refine j_iret K dX5_addPier_101 ?_
    rw [← hn]
    exact ⟨rfl, rfl⟩
  · exact absurd ((nlt (b := 6) (by omega) (by decide) hn rfl).mpr hn6) h_45
