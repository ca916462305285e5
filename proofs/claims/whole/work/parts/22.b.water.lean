set_option maxRecDepth 20000 in
set_option maxHeartbeats 400000 in
theorem c_waterMinute {l : Launch} {D : va_G} {ca : Nat → ClassId} {q0 : Nat} {sa : Nat → Nat} {ad : jAd} {z n : Nat} {V : jV} {a j : Nat} (x d y : Int32) (hI : XI n V) (ha : a < n) (hx : x = nI a) (hd : 0 ≤ d ∧ d ≤ 99999) (hy : y = nI j) (hj : j < (wcnt (w0m (mthX V a (tn (V 11 a 3)) d 0)) (w0h (mthX V a (tn (V 11 a 3)) d 0)))) : jMet l D ca q0 sa ad yX5_waterMinute cX5_waterMinute 4 (some .int) 4 0 0 [.ref (ad 0 0), .int x, .int d, .int y] (jS z n V) (jRet (some (.int ((filV V 6 a (tn (V 11 a 3)) d) 7 6 j))) (jS z n (filV V 6 a (tn (V 11 a 3)) d))) := by
  refine j_enter RX5 [some (.ref (ad 0 0)), some (.int x), some (.int d), some (.int y)] rfl (by decide) (by simp [Value.category]) (Nat.le_of_ble_eq_true rfl) rfl ?_
  intro p e s m args below meth c K hnm hX
  have hn6 := hI.1
  have hl : decide (a < n) = true := decide_eq_true ha
  have ht : LV n 6 a = true := lv_pier ha
  refine j_aload_n K 0 dX5_waterMinute_0 rfl rfl ?_
  refine j_iload_n K 1 dX5_waterMinute_1 rfl rfl ?_
  refine j_iload_n K 2 dX5_waterMinute_2 rfl rfl ?_
  refine j_iload_n K 3 dX5_waterMinute_3 rfl rfl ?_
  refine j_cV3n K dX5_waterMinute_4 m_X5_fillTableWithWater v_X5_fillTableWithWater k_X5_109 rfl ⟨by decide, rfl⟩ rfl (c_fT _ _ _ hI ha hx hd ⟨j, hj, hy⟩) (Nat.le_of_ble_eq_true rfl) ⟨by decide, by decide⟩ (by decide) (by decide) ?_
  refine j_aload_n K 0 dX5_waterMinute_7 rfl rfl ?_
  refine jGr K 6 6 dX5_waterMinute_8 f_X5_39 rfl rfl rfl rfl ?_
  refine jGr K 7 6 dX5_waterMinute_11 f_X5_112 rfl (lvt6 n) rfl rfl ?_
  refine j_iload_n K 3 dX5_waterMinute_14 rfl rfl ?_
  refine jIald K (j) dX5_waterMinute_15 rfl (lvt6 n) hy (Nat.lt_of_lt_of_le hj (wcnt_le _ _)) ?_
  refine j_iret K dX5_waterMinute_16 ?_
  exact ⟨rfl, rfl⟩
set_option maxRecDepth 20000 in
set_option maxHeartbeats 400000 in
theorem c_waterMinutex1 {l : Launch} {D : va_G} {ca : Nat → ClassId} {q0 : Nat} {sa : Nat → Nat} {ad : jAd} {z n : Nat} {V : jV} (x d y : Int32) (hI : XI n V) (h : ¬ (0 ≤ d ∧ d ≤ 99999)) : jMet l D ca q0 sa ad yX5_waterMinute cX5_waterMinute 4 (some .int) 4 1 6 [.ref (ad 0 0), .int x, .int d, .int y] (jS z n V) (jExc "java/lang/IllegalArgumentException" (jS z n V)) := by
  refine j_enter RX5 [some (.ref (ad 0 0)), some (.int x), some (.int d), some (.int y)] rfl (by decide) (by simp [Value.category]) (Nat.le_of_ble_eq_true rfl) rfl ?_
  intro p e s m args below meth c K hnm hX
  refine j_aload_n K 0 dX5_waterMinute_0 rfl rfl ?_
  refine j_iload_n K 1 dX5_waterMinute_1 rfl rfl ?_
  refine j_iload_n K 2 dX5_waterMinute_2 rfl rfl ?_
  refine j_iload_n K 3 dX5_waterMinute_3 rfl rfl ?_
  exact j_cV3x K dX5_waterMinute_4 m_X5_fillTableWithWater v_X5_fillTableWithWater k_X5_109 rfl ⟨by decide, rfl⟩ rfl (c_fTx1 _ _ _ hI h) (Nat.le_of_ble_eq_true rfl) ⟨by decide, by decide⟩ (by decide) (by decide) hX (fun _ => ⟨rfl, rfl⟩)
set_option maxRecDepth 20000 in
set_option maxHeartbeats 400000 in
theorem c_waterMinutex2 {l : Launch} {D : va_G} {ca : Nat → ClassId} {q0 : Nat} {sa : Nat → Nat} {ad : jAd} {z n : Nat} {V : jV} (x d y : Int32) (hI : XI n V) (hd : 0 ≤ d ∧ d ≤ 99999) (h : ¬ okP n x) : jMet l D ca q0 sa ad yX5_waterMinute cX5_waterMinute 4 (some .int) 4 1 6 [.ref (ad 0 0), .int x, .int d, .int y] (jS z n V) (jExc "java/lang/IndexOutOfBoundsException" (jS z n V)) := by
  refine j_enter RX5 [some (.ref (ad 0 0)), some (.int x), some (.int d), some (.int y)] rfl (by decide) (by simp [Value.category]) (Nat.le_of_ble_eq_true rfl) rfl ?_
  intro p e s m args below meth c K hnm hX
  refine j_aload_n K 0 dX5_waterMinute_0 rfl rfl ?_
  refine j_iload_n K 1 dX5_waterMinute_1 rfl rfl ?_
  refine j_iload_n K 2 dX5_waterMinute_2 rfl rfl ?_
  refine j_iload_n K 3 dX5_waterMinute_3 rfl rfl ?_
  exact j_cV3x K dX5_waterMinute_4 m_X5_fillTableWithWater v_X5_fillTableWithWater k_X5_109 rfl ⟨by decide, rfl⟩ rfl (c_fTx2 _ _ _ hI hd h) (Nat.le_of_ble_eq_true rfl) ⟨by decide, by decide⟩ (by decide) (by decide) hX (fun _ => ⟨rfl, rfl⟩)
set_option maxRecDepth 20000 in
set_option maxHeartbeats 400000 in
theorem c_waterMinutex3 {l : Launch} {D : va_G} {ca : Nat → ClassId} {q0 : Nat} {sa : Nat → Nat} {ad : jAd} {z n : Nat} {V : jV} {a : Nat} (x d y : Int32) (hI : XI n V) (ha : a < n) (hx : x = nI a) (hd : 0 ≤ d ∧ d ≤ 99999) (h : ¬ okP (wcnt (w0m (mthX V a (tn (V 11 a 3)) d 0)) (w0h (mthX V a (tn (V 11 a 3)) d 0))) y) : jMet l D ca q0 sa ad yX5_waterMinute cX5_waterMinute 4 (some .int) 4 1 6 [.ref (ad 0 0), .int x, .int d, .int y] (jS z n V) (jExc "java/lang/IndexOutOfBoundsException" (jS z n (filV V 6 a (tn (V 11 a 3)) d))) := by
  refine j_enter RX5 [some (.ref (ad 0 0)), some (.int x), some (.int d), some (.int y)] rfl (by decide) (by simp [Value.category]) (Nat.le_of_ble_eq_true rfl) rfl ?_
  intro p e s m args below meth c K hnm hX
  refine j_aload_n K 0 dX5_waterMinute_0 rfl rfl ?_
  refine j_iload_n K 1 dX5_waterMinute_1 rfl rfl ?_
  refine j_iload_n K 2 dX5_waterMinute_2 rfl rfl ?_
  refine j_iload_n K 3 dX5_waterMinute_3 rfl rfl ?_
  exact j_cV3x K dX5_waterMinute_4 m_X5_fillTableWithWater v_X5_fillTableWithWater k_X5_109 rfl ⟨by decide, rfl⟩ rfl (c_fTx3 _ _ _ hI ha hx hd h) (Nat.le_of_ble_eq_true rfl) ⟨by decide, by decide⟩ (by decide) (by decide) hX (fun _ => ⟨rfl, rfl⟩)
set_option maxRecDepth 20000 in
set_option maxHeartbeats 400000 in
theorem c_waterHeight {l : Launch} {D : va_G} {ca : Nat → ClassId} {q0 : Nat} {sa : Nat → Nat} {ad : jAd} {z n : Nat} {V : jV} {a j : Nat} (x d y : Int32) (hI : XI n V) (ha : a < n) (hx : x = nI a) (hd : 0 ≤ d ∧ d ≤ 99999) (hy : y = nI j) (hj : j < (wcnt (w0m (mthX V a (tn (V 11 a 3)) d 0)) (w0h (mthX V a (tn (V 11 a 3)) d 0)))) : jMet l D ca q0 sa ad yX5_waterHeight cX5_waterHeight 4 (some .int) 4 0 0 [.ref (ad 0 0), .int x, .int d, .int y] (jS z n V) (jRet (some (.int ((filV V 6 a (tn (V 11 a 3)) d) 8 6 j))) (jS z n (filV V 6 a (tn (V 11 a 3)) d))) := by
  refine j_enter RX5 [some (.ref (ad 0 0)), some (.int x), some (.int d), some (.int y)] rfl (by decide) (by simp [Value.category]) (Nat.le_of_ble_eq_true rfl) rfl ?_
  intro p e s m args below meth c K hnm hX
  have hn6 := hI.1
  have hl : decide (a < n) = true := decide_eq_true ha
  have ht : LV n 6 a = true := lv_pier ha
  refine j_aload_n K 0 dX5_waterHeight_0 rfl rfl ?_
  refine j_iload_n K 1 dX5_waterHeight_1 rfl rfl ?_
  refine j_iload_n K 2 dX5_waterHeight_2 rfl rfl ?_
  refine j_iload_n K 3 dX5_waterHeight_3 rfl rfl ?_
  refine j_cV3n K dX5_waterHeight_4 m_X5_fillTableWithWater v_X5_fillTableWithWater k_X5_109 rfl ⟨by decide, rfl⟩ rfl (c_fT _ _ _ hI ha hx hd ⟨j, hj, hy⟩) (Nat.le_of_ble_eq_true rfl) ⟨by decide, by decide⟩ (by decide) (by decide) ?_
  refine j_aload_n K 0 dX5_waterHeight_7 rfl rfl ?_
  refine jGr K 6 6 dX5_waterHeight_8 f_X5_39 rfl rfl rfl rfl ?_
  refine jGr K 8 6 dX5_waterHeight_11 f_X5_115 rfl (lvt6 n) rfl rfl ?_
  refine j_iload_n K 3 dX5_waterHeight_14 rfl rfl ?_
  refine jIald K (j) dX5_waterHeight_15 rfl (lvt6 n) hy (Nat.lt_of_lt_of_le hj (wcnt_le _ _)) ?_
  refine j_iret K dX5_waterHeight_16 ?_
  exact ⟨rfl, rfl⟩
set_option maxRecDepth 20000 in
set_option maxHeartbeats 400000 in
theorem c_waterHeightx1 {l : Launch} {D : va_G} {ca : Nat → ClassId} {q0 : Nat} {sa : Nat → Nat} {ad : jAd} {z n : Nat} {V : jV} (x d y : Int32) (hI : XI n V) (h : ¬ (0 ≤ d ∧ d ≤ 99999)) : jMet l D ca q0 sa ad yX5_waterHeight cX5_waterHeight 4 (some .int) 4 1 6 [.ref (ad 0 0), .int x, .int d, .int y] (jS z n V) (jExc "java/lang/IllegalArgumentException" (jS z n V)) := by
  refine j_enter RX5 [some (.ref (ad 0 0)), some (.int x), some (.int d), some (.int y)] rfl (by decide) (by simp [Value.category]) (Nat.le_of_ble_eq_true rfl) rfl ?_
  intro p e s m args below meth c K hnm hX
  refine j_aload_n K 0 dX5_waterHeight_0 rfl rfl ?_
  refine j_iload_n K 1 dX5_waterHeight_1 rfl rfl ?_
  refine j_iload_n K 2 dX5_waterHeight_2 rfl rfl ?_
  refine j_iload_n K 3 dX5_waterHeight_3 rfl rfl ?_
  exact j_cV3x K dX5_waterHeight_4 m_X5_fillTableWithWater v_X5_fillTableWithWater k_X5_109 rfl ⟨by decide, rfl⟩ rfl (c_fTx1 _ _ _ hI h) (Nat.le_of_ble_eq_true rfl) ⟨by decide, by decide⟩ (by decide) (by decide) hX (fun _ => ⟨rfl, rfl⟩)
set_option maxRecDepth 20000 in
set_option maxHeartbeats 400000 in
theorem c_waterHeightx2 {l : Launch} {D : va_G} {ca : Nat → ClassId} {q0 : Nat} {sa : Nat → Nat} {ad : jAd} {z n : Nat} {V : jV} (x d y : Int32) (hI : XI n V) (hd : 0 ≤ d ∧ d ≤ 99999) (h : ¬ okP n x) : jMet l D ca q0 sa ad yX5_waterHeight cX5_waterHeight 4 (some .int) 4 1 6 [.ref (ad 0 0), .int x, .int d, .int y] (jS z n V) (jExc "java/lang/IndexOutOfBoundsException" (jS z n V)) := by
  refine j_enter RX5 [some (.ref (ad 0 0)), some (.int x), some (.int d), some (.int y)] rfl (by decide) (by simp [Value.category]) (Nat.le_of_ble_eq_true rfl) rfl ?_
  intro p e s m args below meth c K hnm hX
  refine j_aload_n K 0 dX5_waterHeight_0 rfl rfl ?_
  refine j_iload_n K 1 dX5_waterHeight_1 rfl rfl ?_
  refine j_iload_n K 2 dX5_waterHeight_2 rfl rfl ?_
  refine j_iload_n K 3 dX5_waterHeight_3 rfl rfl ?_
  exact j_cV3x K dX5_waterHeight_4 m_X5_fillTableWithWater v_X5_fillTableWithWater k_X5_109 rfl ⟨by decide, rfl⟩ rfl (c_fTx2 _ _ _ hI hd h) (Nat.le_of_ble_eq_true rfl) ⟨by decide, by decide⟩ (by decide) (by decide) hX (fun _ => ⟨rfl, rfl⟩)
set_option maxRecDepth 20000 in
set_option maxHeartbeats 400000 in
theorem c_waterHeightx3 {l : Launch} {D : va_G} {ca : Nat → ClassId} {q0 : Nat} {sa : Nat → Nat} {ad : jAd} {z n : Nat} {V : jV} {a : Nat} (x d y : Int32) (hI : XI n V) (ha : a < n) (hx : x = nI a) (hd : 0 ≤ d ∧ d ≤ 99999) (h : ¬ okP (wcnt (w0m (mthX V a (tn (V 11 a 3)) d 0)) (w0h (mthX V a (tn (V 11 a 3)) d 0))) y) : jMet l D ca q0 sa ad yX5_waterHeight cX5_waterHeight 4 (some .int) 4 1 6 [.ref (ad 0 0), .int x, .int d, .int y] (jS z n V) (jExc "java/lang/IndexOutOfBoundsException" (jS z n (filV V 6 a (tn (V 11 a 3)) d))) := by
  refine j_enter RX5 [some (.ref (ad 0 0)), some (.int x), some (.int d), some (.int y)] rfl (by decide) (by simp [Value.category]) (Nat.le_of_ble_eq_true rfl) rfl ?_
  intro p e s m args below meth c K hnm hX
  refine j_aload_n K 0 dX5_waterHeight_0 rfl rfl ?_
  refine j_iload_n K 1 dX5_waterHeight_1 rfl rfl ?_
  refine j_iload_n K 2 dX5_waterHeight_2 rfl rfl ?_
  refine j_iload_n K 3 dX5_waterHeight_3 rfl rfl ?_
  exact j_cV3x K dX5_waterHeight_4 m_X5_fillTableWithWater v_X5_fillTableWithWater k_X5_109 rfl ⟨by decide, rfl⟩ rfl (c_fTx3 _ _ _ hI ha hx hd h) (Nat.le_of_ble_eq_true rfl) ⟨by decide, by decide⟩ (by decide) (by decide) hX (fun _ => ⟨rfl, rfl⟩)
set_option maxRecDepth 20000 in
set_option maxHeartbeats 400000 in
theorem c_isHighWater {l : Launch} {D : va_G} {ca : Nat → ClassId} {q0 : Nat} {sa : Nat → Nat} {ad : jAd} {z n : Nat} {V : jV} {a j : Nat} (x d y : Int32) (hI : XI n V) (ha : a < n) (hx : x = nI a) (hd : 0 ≤ d ∧ d ≤ 99999) (hy : y = nI j) (hj : j < (wcnt (w0m (mthX V a (tn (V 11 a 3)) d 0)) (w0h (mthX V a (tn (V 11 a 3)) d 0)))) : jMet l D ca q0 sa ad yX5_isHighWater cX5_isHighWater 4 (some .boolean) 4 0 0 [.ref (ad 0 0), .int x, .int d, .int y] (jS z n V) (jRet (some (.int ((filV V 6 a (tn (V 11 a 3)) d) 9 6 j))) (jS z n (filV V 6 a (tn (V 11 a 3)) d))) := by
  refine j_enter RX5 [some (.ref (ad 0 0)), some (.int x), some (.int d), some (.int y)] rfl (by decide) (by simp [Value.category]) (Nat.le_of_ble_eq_true rfl) rfl ?_
  intro p e s m args below meth c K hnm hX
  have hn6 := hI.1
  have hl : decide (a < n) = true := decide_eq_true ha
  have ht : LV n 6 a = true := lv_pier ha
  have h01 : (filV V 6 a (tn (V 11 a 3)) d) 9 6 j = 0 ∨ (filV V 6 a (tn (V 11 a 3)) d) 9 6 j = 1 := fil_9_01 hj
  refine j_aload_n K 0 dX5_isHighWater_0 rfl rfl ?_
  refine j_iload_n K 1 dX5_isHighWater_1 rfl rfl ?_
  refine j_iload_n K 2 dX5_isHighWater_2 rfl rfl ?_
  refine j_iload_n K 3 dX5_isHighWater_3 rfl rfl ?_
  refine j_cV3n K dX5_isHighWater_4 m_X5_fillTableWithWater v_X5_fillTableWithWater k_X5_109 rfl ⟨by decide, rfl⟩ rfl (c_fT _ _ _ hI ha hx hd ⟨j, hj, hy⟩) (Nat.le_of_ble_eq_true rfl) ⟨by decide, by decide⟩ (by decide) (by decide) ?_
  refine j_aload_n K 0 dX5_isHighWater_7 rfl rfl ?_
  refine jGr K 6 6 dX5_isHighWater_8 f_X5_39 rfl rfl rfl rfl ?_
  refine jGr K 9 6 dX5_isHighWater_11 f_X5_118 rfl (lvt6 n) rfl rfl ?_
  refine j_iload_n K 3 dX5_isHighWater_14 rfl rfl ?_
  refine jZald K (j) dX5_isHighWater_15 rfl (lvt6 n) hy (Nat.lt_of_lt_of_le hj (wcnt_le _ _)) ?_
  refine j_zret K dX5_isHighWater_16 h01 ?_
  exact ⟨rfl, rfl⟩
set_option maxRecDepth 20000 in
set_option maxHeartbeats 400000 in
theorem c_isHighWaterx1 {l : Launch} {D : va_G} {ca : Nat → ClassId} {q0 : Nat} {sa : Nat → Nat} {ad : jAd} {z n : Nat} {V : jV} (x d y : Int32) (hI : XI n V) (h : ¬ (0 ≤ d ∧ d ≤ 99999)) : jMet l D ca q0 sa ad yX5_isHighWater cX5_isHighWater 4 (some .boolean) 4 1 6 [.ref (ad 0 0), .int x, .int d, .int y] (jS z n V) (jExc "java/lang/IllegalArgumentException" (jS z n V)) := by
  refine j_enter RX5 [some (.ref (ad 0 0)), some (.int x), some (.int d), some (.int y)] rfl (by decide) (by simp [Value.category]) (Nat.le_of_ble_eq_true rfl) rfl ?_
  intro p e s m args below meth c K hnm hX
  refine j_aload_n K 0 dX5_isHighWater_0 rfl rfl ?_
  refine j_iload_n K 1 dX5_isHighWater_1 rfl rfl ?_
  refine j_iload_n K 2 dX5_isHighWater_2 rfl rfl ?_
  refine j_iload_n K 3 dX5_isHighWater_3 rfl rfl ?_
  exact j_cV3x K dX5_isHighWater_4 m_X5_fillTableWithWater v_X5_fillTableWithWater k_X5_109 rfl ⟨by decide, rfl⟩ rfl (c_fTx1 _ _ _ hI h) (Nat.le_of_ble_eq_true rfl) ⟨by decide, by decide⟩ (by decide) (by decide) hX (fun _ => ⟨rfl, rfl⟩)
set_option maxRecDepth 20000 in
set_option maxHeartbeats 400000 in
theorem c_isHighWaterx2 {l : Launch} {D : va_G} {ca : Nat → ClassId} {q0 : Nat} {sa : Nat → Nat} {ad : jAd} {z n : Nat} {V : jV} (x d y : Int32) (hI : XI n V) (hd : 0 ≤ d ∧ d ≤ 99999) (h : ¬ okP n x) : jMet l D ca q0 sa ad yX5_isHighWater cX5_isHighWater 4 (some .boolean) 4 1 6 [.ref (ad 0 0), .int x, .int d, .int y] (jS z n V) (jExc "java/lang/IndexOutOfBoundsException" (jS z n V)) := by
  refine j_enter RX5 [some (.ref (ad 0 0)), some (.int x), some (.int d), some (.int y)] rfl (by decide) (by simp [Value.category]) (Nat.le_of_ble_eq_true rfl) rfl ?_
  intro p e s m args below meth c K hnm hX
  refine j_aload_n K 0 dX5_isHighWater_0 rfl rfl ?_
  refine j_iload_n K 1 dX5_isHighWater_1 rfl rfl ?_
  refine j_iload_n K 2 dX5_isHighWater_2 rfl rfl ?_
  refine j_iload_n K 3 dX5_isHighWater_3 rfl rfl ?_
  exact j_cV3x K dX5_isHighWater_4 m_X5_fillTableWithWater v_X5_fillTableWithWater k_X5_109 rfl ⟨by decide, rfl⟩ rfl (c_fTx2 _ _ _ hI hd h) (Nat.le_of_ble_eq_true rfl) ⟨by decide, by decide⟩ (by decide) (by decide) hX (fun _ => ⟨rfl, rfl⟩)
set_option maxRecDepth 20000 in
set_option maxHeartbeats 400000 in
theorem c_isHighWaterx3 {l : Launch} {D : va_G} {ca : Nat → ClassId} {q0 : Nat} {sa : Nat → Nat} {ad : jAd} {z n : Nat} {V : jV} {a : Nat} (x d y : Int32) (hI : XI n V) (ha : a < n) (hx : x = nI a) (hd : 0 ≤ d ∧ d ≤ 99999) (h : ¬ okP (wcnt (w0m (mthX V a (tn (V 11 a 3)) d 0)) (w0h (mthX V a (tn (V 11 a 3)) d 0))) y) : jMet l D ca q0 sa ad yX5_isHighWater cX5_isHighWater 4 (some .boolean) 4 1 6 [.ref (ad 0 0), .int x, .int d, .int y] (jS z n V) (jExc "java/lang/IndexOutOfBoundsException" (jS z n (filV V 6 a (tn (V 11 a 3)) d))) := by
  refine j_enter RX5 [some (.ref (ad 0 0)), some (.int x), some (.int d), some (.int y)] rfl (by decide) (by simp [Value.category]) (Nat.le_of_ble_eq_true rfl) rfl ?_
  intro p e s m args below meth c K hnm hX
  refine j_aload_n K 0 dX5_isHighWater_0 rfl rfl ?_
  refine j_iload_n K 1 dX5_isHighWater_1 rfl rfl ?_
  refine j_iload_n K 2 dX5_isHighWater_2 rfl rfl ?_
  refine j_iload_n K 3 dX5_isHighWater_3 rfl rfl ?_
  exact j_cV3x K dX5_isHighWater_4 m_X5_fillTableWithWater v_X5_fillTableWithWater k_X5_109 rfl ⟨by decide, rfl⟩ rfl (c_fTx3 _ _ _ hI ha hx hd h) (Nat.le_of_ble_eq_true rfl) ⟨by decide, by decide⟩ (by decide) (by decide) hX (fun _ => ⟨rfl, rfl⟩)
