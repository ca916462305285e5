set_option maxRecDepth 20000 in
set_option maxHeartbeats 400000 in
theorem c_pierCount {l : Launch} {D : va_G} {ca : Nat → ClassId} {q0 : Nat} {sa : Nat → Nat} {ad : jAd} {z n : Nat} {V : jV}  : jMet l D ca q0 sa ad yX5_pierCount cX5_pierCount 1 (some .int) 0 0 0 [.ref (ad 0 0)] (jS z n V) (jRet (some (.int (V 0 0 1))) (jS z n V)) := by
  refine j_enter RX5 [some (.ref (ad 0 0))] rfl (by decide) (by simp [Value.category]) (Nat.le_of_ble_eq_true rfl) rfl ?_
  intro p e s m args below meth c K hnm hX
  refine j_aload_n K 0 dX5_pierCount_0 rfl rfl ?_
  refine jGi K dX5_pierCount_1 f_X5_15 rfl rfl rfl ?_
  refine j_iret K dX5_pierCount_4 ?_
  exact ⟨rfl, rfl⟩
set_option maxRecDepth 20000 in
set_option maxHeartbeats 400000 in
theorem c_today {l : Launch} {D : va_G} {ca : Nat → ClassId} {q0 : Nat} {sa : Nat → Nat} {ad : jAd} {z n : Nat} {V : jV}  : jMet l D ca q0 sa ad yX5_today cX5_today 1 (some .int) 0 0 0 [.ref (ad 0 0)] (jS z n V) (jRet (some (.int (V 0 0 7))) (jS z n V)) := by
  refine j_enter RX5 [some (.ref (ad 0 0))] rfl (by decide) (by simp [Value.category]) (Nat.le_of_ble_eq_true rfl) rfl ?_
  intro p e s m args below meth c K hnm hX
  refine j_aload_n K 0 dX5_today_0 rfl rfl ?_
  refine jGi K dX5_today_1 f_X5_43 rfl rfl rfl ?_
  refine j_iret K dX5_today_4 ?_
  exact ⟨rfl, rfl⟩
set_option maxRecDepth 20000 in
set_option maxHeartbeats 400000 in
theorem c_paintUsed {l : Launch} {D : va_G} {ca : Nat → ClassId} {q0 : Nat} {sa : Nat → Nat} {ad : jAd} {z n : Nat} {V : jV}  : jMet l D ca q0 sa ad yX5_paintUsed cX5_paintUsed 1 (some .int) 0 0 0 [.ref (ad 0 0)] (jS z n V) (jRet (some (.int (V 0 0 9))) (jS z n V)) := by
  refine j_enter RX5 [some (.ref (ad 0 0))] rfl (by decide) (by simp [Value.category]) (Nat.le_of_ble_eq_true rfl) rfl ?_
  intro p e s m args below meth c K hnm hX
  refine j_aload_n K 0 dX5_paintUsed_0 rfl rfl ?_
  refine jGi K dX5_paintUsed_1 f_X5_49 rfl rfl rfl ?_
  refine j_iret K dX5_paintUsed_4 ?_
  exact ⟨rfl, rfl⟩
set_option maxRecDepth 20000 in
set_option maxHeartbeats 400000 in
theorem c_paintDripped {l : Launch} {D : va_G} {ca : Nat → ClassId} {q0 : Nat} {sa : Nat → Nat} {ad : jAd} {z n : Nat} {V : jV}  : jMet l D ca q0 sa ad yX5_paintDripped cX5_paintDripped 1 (some .int) 0 0 0 [.ref (ad 0 0)] (jS z n V) (jRet (some (.int (V 0 0 10))) (jS z n V)) := by
  refine j_enter RX5 [some (.ref (ad 0 0))] rfl (by decide) (by simp [Value.category]) (Nat.le_of_ble_eq_true rfl) rfl ?_
  intro p e s m args below meth c K hnm hX
  refine j_aload_n K 0 dX5_paintDripped_0 rfl rfl ?_
  refine jGi K dX5_paintDripped_1 f_X5_52 rfl rfl rfl ?_
  refine j_iret K dX5_paintDripped_4 ?_
  exact ⟨rfl, rfl⟩
set_option maxRecDepth 20000 in
set_option maxHeartbeats 400000 in
theorem c_jobPier {l : Launch} {D : va_G} {ca : Nat → ClassId} {q0 : Nat} {sa : Nat → Nat} {ad : jAd} {z n : Nat} {V : jV}  : jMet l D ca q0 sa ad yX5_jobPier cX5_jobPier 1 (some .int) 0 0 0 [.ref (ad 0 0)] (jS z n V) (jRet (some (.int (V 0 0 8))) (jS z n V)) := by
  refine j_enter RX5 [some (.ref (ad 0 0))] rfl (by decide) (by simp [Value.category]) (Nat.le_of_ble_eq_true rfl) rfl ?_
  intro p e s m args below meth c K hnm hX
  refine j_aload_n K 0 dX5_jobPier_0 rfl rfl ?_
  refine jGi K dX5_jobPier_1 f_X5_46 rfl rfl rfl ?_
  refine j_iret K dX5_jobPier_4 ?_
  exact ⟨rfl, rfl⟩
set_option maxRecDepth 20000 in
set_option maxHeartbeats 400000 in
theorem c_paintPoured {l : Launch} {D : va_G} {ca : Nat → ClassId} {q0 : Nat} {sa : Nat → Nat} {ad : jAd} {z n : Nat} {V : jV}  : jMet l D ca q0 sa ad yX5_paintPoured cX5_paintPoured 1 (some .int) 0 0 0 [.ref (ad 0 0)] (jS z n V) (jRet (some (.int (V 4 0 2 + V 4 1 2))) (jS z n V)) := by
  refine j_enter RX5 [some (.ref (ad 0 0))] rfl (by decide) (by simp [Value.category]) (Nat.le_of_ble_eq_true rfl) rfl ?_
  intro p e s m args below meth c K hnm hX
  refine j_aload_n K 0 dX5_paintPoured_0 rfl rfl ?_
  refine jGr K 4 0 dX5_paintPoured_1 f_X5_29 rfl rfl rfl rfl ?_
  refine jGi K dX5_paintPoured_4 f_X5_182 rfl rfl rfl ?_
  refine j_aload_n K 0 dX5_paintPoured_7 rfl rfl ?_
  refine jGr K 4 1 dX5_paintPoured_8 f_X5_33 rfl rfl rfl rfl ?_
  refine jGi K dX5_paintPoured_11 f_X5_182 rfl rfl rfl ?_
  refine j_iadd K dX5_paintPoured_14 ?_
  refine j_iret K dX5_paintPoured_15 ?_
  exact ⟨rfl, rfl⟩
set_option maxRecDepth 20000 in
set_option maxHeartbeats 400000 in
theorem c_moonAge {l : Launch} {D : va_G} {ca : Nat → ClassId} {q0 : Nat} {sa : Nat → Nat} {ad : jAd} {z n : Nat} {V : jV} (d : Int32) (hd : 0 ≤ d ∧ d ≤ 99999) : jMet l D ca q0 sa ad yX5_moonAge cX5_moonAge 2 (some .int) 2 0 0 [.ref (ad 0 0), .int d] (jS z n V) (jRet (some (.int (moonOf d))) (jS z n V)) := by
  refine j_enter RX5 [some (.ref (ad 0 0)), some (.int d)] rfl (by decide) (by simp [Value.category]) (Nat.le_of_ble_eq_true rfl) rfl ?_
  intro p e s m args below meth c K hnm hX
  refine j_iload_n K 1 dX5_moonAge_0 rfl rfl ?_
  refine j_cS1n K dX5_moonAge_1 m_X5_demandDay s_X5_demandDay k_X5_88 (c_dD _ hd) (Nat.le_of_ble_eq_true rfl) ⟨by decide, by decide⟩ (by decide) (by decide) ?_
  refine j_iload_n K 1 dX5_moonAge_4 rfl rfl ?_
  refine j_cS1r K dX5_moonAge_5 m_X5_moonAgeOn s_X5_moonAgeOn k_X5_91 (c_X5_moonAgeOn _) (Nat.le_of_ble_eq_true rfl) ⟨by decide, by decide⟩ (by decide) (by decide) ?_
  refine j_iret K dX5_moonAge_8 ?_
  exact ⟨rfl, rfl⟩
set_option maxRecDepth 20000 in
set_option maxHeartbeats 400000 in
theorem c_moonAgex {l : Launch} {D : va_G} {ca : Nat → ClassId} {q0 : Nat} {sa : Nat → Nat} {ad : jAd} {z n : Nat} {V : jV} (d : Int32) (h : ¬ (0 ≤ d ∧ d ≤ 99999)) : jMet l D ca q0 sa ad yX5_moonAge cX5_moonAge 2 (some .int) 2 1 6 [.ref (ad 0 0), .int d] (jS z n V) (jExc "java/lang/IllegalArgumentException" (jS z n V)) := by
  refine j_enter RX5 [some (.ref (ad 0 0)), some (.int d)] rfl (by decide) (by simp [Value.category]) (Nat.le_of_ble_eq_true rfl) rfl ?_
  intro p e s m args below meth c K hnm hX
  refine j_iload_n K 1 dX5_moonAge_0 rfl rfl ?_
  exact j_cS1x K dX5_moonAge_1 m_X5_demandDay s_X5_demandDay k_X5_88 (c_dDx _ h) (Nat.le_of_ble_eq_true rfl) ⟨by decide, by decide⟩ (by decide) (by decide) hX (fun _ => ⟨rfl, rfl⟩)
set_option maxRecDepth 20000 in
set_option maxHeartbeats 400000 in
theorem c_rangeOf {l : Launch} {D : va_G} {ca : Nat → ClassId} {q0 : Nat} {sa : Nat → Nat} {ad : jAd} {z n : Nat} {V : jV} {a : Nat} (x d : Int32) (hI : XI n V) (ha : a < n) (hx : x = nI a) (hd : 0 ≤ d ∧ d ≤ 99999)  : jMet l D ca q0 sa ad yX5_rangeOf cX5_rangeOf 4 (some .int) 2 0 0 [.ref (ad 0 0), .int x, .int d] (jS z n V) (jRet (some (.int (rangeX V a d))) (jS z n V)) := by
  refine j_enter RX5 [some (.ref (ad 0 0)), some (.int x), some (.int d), none] rfl (by decide) (by simp [Value.category]) (Nat.le_of_ble_eq_true rfl) rfl ?_
  intro p e s m args below meth c K hnm hX
  have hn6 := hI.1
  have hl : decide (a < n) = true := decide_eq_true ha
  have ht : LV n 6 a = true := lv_pier ha
  refine j_aload_n K 0 dX5_rangeOf_0 rfl rfl ?_
  refine j_iload_n K 1 dX5_rangeOf_1 rfl rfl ?_
  refine j_cV1r K dX5_rangeOf_2 m_X5_pierNumbered v_X5_pierNumbered k_X5_95 rfl ⟨by decide, rfl⟩ rfl (c_pN _ hI ha hx) (Nat.le_of_ble_eq_true rfl) ⟨by decide, by decide⟩ (by decide) (by decide) ?_
  refine j_astore_n K 3 dX5_rangeOf_5 rfl (by decide) ?_
  refine j_iload_n K 2 dX5_rangeOf_6 rfl rfl ?_
  refine j_cS1n K dX5_rangeOf_7 m_X5_demandDay s_X5_demandDay k_X5_88 (c_dD _ hd) (Nat.le_of_ble_eq_true rfl) ⟨by decide, by decide⟩ (by decide) (by decide) ?_
  refine j_aload_n K 3 dX5_rangeOf_10 rfl rfl ?_
  refine j_iload_n K 2 dX5_rangeOf_11 rfl rfl ?_
  refine j_cV1r K dX5_rangeOf_12 m_X1_rangeOn v_X1_rangeOn k_X5_99 rfl ⟨by decide, rfl⟩ hl (c_X1_rangeOn _ hl) (Nat.le_of_ble_eq_true rfl) ⟨by decide, by decide⟩ (by decide) (by decide) ?_
  refine j_iret K dX5_rangeOf_15 ?_
  exact ⟨rfl, rfl⟩
set_option maxRecDepth 20000 in
set_option maxHeartbeats 400000 in
theorem c_rangeOfx1 {l : Launch} {D : va_G} {ca : Nat → ClassId} {q0 : Nat} {sa : Nat → Nat} {ad : jAd} {z n : Nat} {V : jV} (x d : Int32) (hI : XI n V) (h : ¬ okP n x) : jMet l D ca q0 sa ad yX5_rangeOf cX5_rangeOf 4 (some .int) 2 1 6 [.ref (ad 0 0), .int x, .int d] (jS z n V) (jExc "java/lang/IndexOutOfBoundsException" (jS z n V)) := by
  refine j_enter RX5 [some (.ref (ad 0 0)), some (.int x), some (.int d), none] rfl (by decide) (by simp [Value.category]) (Nat.le_of_ble_eq_true rfl) rfl ?_
  intro p e s m args below meth c K hnm hX
  refine j_aload_n K 0 dX5_rangeOf_0 rfl rfl ?_
  refine j_iload_n K 1 dX5_rangeOf_1 rfl rfl ?_
  exact j_cV1x K dX5_rangeOf_2 m_X5_pierNumbered v_X5_pierNumbered k_X5_95 rfl ⟨by decide, rfl⟩ rfl (c_pNx _ hI h) (Nat.le_of_ble_eq_true rfl) ⟨by decide, by decide⟩ (by decide) (by decide) hX (fun _ => ⟨rfl, rfl⟩)
set_option maxRecDepth 20000 in
set_option maxHeartbeats 400000 in
theorem c_rangeOfx2 {l : Launch} {D : va_G} {ca : Nat → ClassId} {q0 : Nat} {sa : Nat → Nat} {ad : jAd} {z n : Nat} {V : jV} {a : Nat} (x d : Int32) (hI : XI n V) (ha : a < n) (hx : x = nI a) (h : ¬ (0 ≤ d ∧ d ≤ 99999)) : jMet l D ca q0 sa ad yX5_rangeOf cX5_rangeOf 4 (some .int) 2 1 6 [.ref (ad 0 0), .int x, .int d] (jS z n V) (jExc "java/lang/IllegalArgumentException" (jS z n V)) := by
  refine j_enter RX5 [some (.ref (ad 0 0)), some (.int x), some (.int d), none] rfl (by decide) (by simp [Value.category]) (Nat.le_of_ble_eq_true rfl) rfl ?_
  intro p e s m args below meth c K hnm hX
  have hn6 := hI.1
  have hl : decide (a < n) = true := decide_eq_true ha
  have ht : LV n 6 a = true := lv_pier ha
  refine j_aload_n K 0 dX5_rangeOf_0 rfl rfl ?_
  refine j_iload_n K 1 dX5_rangeOf_1 rfl rfl ?_
  refine j_cV1r K dX5_rangeOf_2 m_X5_pierNumbered v_X5_pierNumbered k_X5_95 rfl ⟨by decide, rfl⟩ rfl (c_pN _ hI ha hx) (Nat.le_of_ble_eq_true rfl) ⟨by decide, by decide⟩ (by decide) (by decide) ?_
  refine j_astore_n K 3 dX5_rangeOf_5 rfl (by decide) ?_
  refine j_iload_n K 2 dX5_rangeOf_6 rfl rfl ?_
  exact j_cS1x K dX5_rangeOf_7 m_X5_demandDay s_X5_demandDay k_X5_88 (c_dDx _ h) (Nat.le_of_ble_eq_true rfl) ⟨by decide, by decide⟩ (by decide) (by decide) hX (fun _ => ⟨rfl, rfl⟩)
set_option maxRecDepth 20000 in
set_option maxHeartbeats 400000 in
theorem c_waterCount {l : Launch} {D : va_G} {ca : Nat → ClassId} {q0 : Nat} {sa : Nat → Nat} {ad : jAd} {z n : Nat} {V : jV} {a : Nat} (x d : Int32) (hI : XI n V) (ha : a < n) (hx : x = nI a) (hd : 0 ≤ d ∧ d ≤ 99999)  : jMet l D ca q0 sa ad yX5_waterCount cX5_waterCount 4 (some .int) 3 0 0 [.ref (ad 0 0), .int x, .int d] (jS z n V) (jRet (some (.int ((filV V 6 a (tn (V 11 a 3)) d) 6 6 3))) (jS z n (filV V 6 a (tn (V 11 a 3)) d))) := by
  refine j_enter RX5 [some (.ref (ad 0 0)), some (.int x), some (.int d), none] rfl (by decide) (by simp [Value.category]) (Nat.le_of_ble_eq_true rfl) rfl ?_
  intro p e s m args below meth c K hnm hX
  have hn6 := hI.1
  have hl : decide (a < n) = true := decide_eq_true ha
  have ht : LV n 6 a = true := lv_pier ha
  refine j_aload_n K 0 dX5_waterCount_0 rfl rfl ?_
  refine j_iload_n K 1 dX5_waterCount_1 rfl rfl ?_
  refine j_cV1r K dX5_waterCount_2 m_X5_pierNumbered v_X5_pierNumbered k_X5_95 rfl ⟨by decide, rfl⟩ rfl (c_pN _ hI ha hx) (Nat.le_of_ble_eq_true rfl) ⟨by decide, by decide⟩ (by decide) (by decide) ?_
  refine j_astore_n K 3 dX5_waterCount_5 rfl (by decide) ?_
  refine j_iload_n K 2 dX5_waterCount_6 rfl rfl ?_
  refine j_cS1n K dX5_waterCount_7 m_X5_demandDay s_X5_demandDay k_X5_88 (c_dD _ hd) (Nat.le_of_ble_eq_true rfl) ⟨by decide, by decide⟩ (by decide) (by decide) ?_
  refine j_aload_n K 0 dX5_waterCount_10 rfl rfl ?_
  refine jGr K 6 6 dX5_waterCount_11 f_X5_39 rfl rfl rfl rfl ?_
  refine j_aload_n K 3 dX5_waterCount_14 rfl rfl ?_
  refine j_iload_n K 2 dX5_waterCount_15 rfl rfl ?_
  refine j_cV2n K dX5_waterCount_16 m_X3_fill v_X3_fill k_X5_102 rfl ⟨by decide, rfl⟩ (lvt6 n) (c_X3_fill _ hl (lvt6 n) (hI.2.2.1 a ha)) (Nat.le_of_ble_eq_true rfl) ⟨by decide, by decide⟩ (by decide) (by decide) ?_
  refine j_aload_n K 0 dX5_waterCount_19 rfl rfl ?_
  refine jGr K 6 6 dX5_waterCount_20 f_X5_39 rfl rfl rfl rfl ?_
  refine jGi K dX5_waterCount_23 f_X5_106 rfl (lvt6 n) rfl ?_
  refine j_iret K dX5_waterCount_26 ?_
  exact ⟨rfl, rfl⟩
set_option maxRecDepth 20000 in
set_option maxHeartbeats 400000 in
theorem c_waterCountx1 {l : Launch} {D : va_G} {ca : Nat → ClassId} {q0 : Nat} {sa : Nat → Nat} {ad : jAd} {z n : Nat} {V : jV} (x d : Int32) (hI : XI n V) (h : ¬ okP n x) : jMet l D ca q0 sa ad yX5_waterCount cX5_waterCount 4 (some .int) 3 1 6 [.ref (ad 0 0), .int x, .int d] (jS z n V) (jExc "java/lang/IndexOutOfBoundsException" (jS z n V)) := by
  refine j_enter RX5 [some (.ref (ad 0 0)), some (.int x), some (.int d), none] rfl (by decide) (by simp [Value.category]) (Nat.le_of_ble_eq_true rfl) rfl ?_
  intro p e s m args below meth c K hnm hX
  refine j_aload_n K 0 dX5_waterCount_0 rfl rfl ?_
  refine j_iload_n K 1 dX5_waterCount_1 rfl rfl ?_
  exact j_cV1x K dX5_waterCount_2 m_X5_pierNumbered v_X5_pierNumbered k_X5_95 rfl ⟨by decide, rfl⟩ rfl (c_pNx _ hI h) (Nat.le_of_ble_eq_true rfl) ⟨by decide, by decide⟩ (by decide) (by decide) hX (fun _ => ⟨rfl, rfl⟩)
set_option maxRecDepth 20000 in
set_option maxHeartbeats 400000 in
theorem c_waterCountx2 {l : Launch} {D : va_G} {ca : Nat → ClassId} {q0 : Nat} {sa : Nat → Nat} {ad : jAd} {z n : Nat} {V : jV} {a : Nat} (x d : Int32) (hI : XI n V) (ha : a < n) (hx : x = nI a) (h : ¬ (0 ≤ d ∧ d ≤ 99999)) : jMet l D ca q0 sa ad yX5_waterCount cX5_waterCount 4 (some .int) 3 1 6 [.ref (ad 0 0), .int x, .int d] (jS z n V) (jExc "java/lang/IllegalArgumentException" (jS z n V)) := by
  refine j_enter RX5 [some (.ref (ad 0 0)), some (.int x), some (.int d), none] rfl (by decide) (by simp [Value.category]) (Nat.le_of_ble_eq_true rfl) rfl ?_
  intro p e s m args below meth c K hnm hX
  have hn6 := hI.1
  have hl : decide (a < n) = true := decide_eq_true ha
  have ht : LV n 6 a = true := lv_pier ha
  refine j_aload_n K 0 dX5_waterCount_0 rfl rfl ?_
  refine j_iload_n K 1 dX5_waterCount_1 rfl rfl ?_
  refine j_cV1r K dX5_waterCount_2 m_X5_pierNumbered v_X5_pierNumbered k_X5_95 rfl ⟨by decide, rfl⟩ rfl (c_pN _ hI ha hx) (Nat.le_of_ble_eq_true rfl) ⟨by decide, by decide⟩ (by decide) (by decide) ?_
  refine j_astore_n K 3 dX5_waterCount_5 rfl (by decide) ?_
  refine j_iload_n K 2 dX5_waterCount_6 rfl rfl ?_
  exact j_cS1x K dX5_waterCount_7 m_X5_demandDay s_X5_demandDay k_X5_88 (c_dDx _ h) (Nat.le_of_ble_eq_true rfl) ⟨by decide, by decide⟩ (by decide) (by decide) hX (fun _ => ⟨rfl, rfl⟩)
set_option maxRecDepth 20000 in
set_option maxHeartbeats 400000 in
theorem c_minutesToHighWater {l : Launch} {D : va_G} {ca : Nat → ClassId} {q0 : Nat} {sa : Nat → Nat} {ad : jAd} {z n : Nat} {V : jV} {a : Nat} (x d y : Int32) (hI : XI n V) (ha : a < n) (hx : x = nI a) (hd : 0 ≤ d ∧ d ≤ 99999) (hy : 0 ≤ y ∧ y ≤ 1439) : jMet l D ca q0 sa ad yX5_minutesToHighWater cX5_minutesToHighWater 5 (some .int) 2 0 0 [.ref (ad 0 0), .int x, .int d, .int y] (jS z n V) (jRet (some (.int (mthX V a (tn (V 11 a 3)) d y))) (jS z n V)) := by
  refine j_enter RX5 [some (.ref (ad 0 0)), some (.int x), some (.int d), some (.int y), none] rfl (by decide) (by simp [Value.category]) (Nat.le_of_ble_eq_true rfl) rfl ?_
  intro p e s m args below meth c K hnm hX
  have hn6 := hI.1
  have hl : decide (a < n) = true := decide_eq_true ha
  have ht : LV n 6 a = true := lv_pier ha
  refine j_aload_n K 0 dX5_minutesToHighWater_0 rfl rfl ?_
  refine j_iload_n K 1 dX5_minutesToHighWater_1 rfl rfl ?_
  refine j_cV1r K dX5_minutesToHighWater_2 m_X5_pierNumbered v_X5_pierNumbered k_X5_95 rfl ⟨by decide, rfl⟩ rfl (c_pN _ hI ha hx) (Nat.le_of_ble_eq_true rfl) ⟨by decide, by decide⟩ (by decide) (by decide) ?_
  refine j_astore K dX5_minutesToHighWater_5 (by decide) ?_
  refine j_iload_n K 2 dX5_minutesToHighWater_7 rfl rfl ?_
  refine j_cS1n K dX5_minutesToHighWater_8 m_X5_demandDay s_X5_demandDay k_X5_88 (c_dD _ hd) (Nat.le_of_ble_eq_true rfl) ⟨by decide, by decide⟩ (by decide) (by decide) ?_
  refine j_iload_n K 3 dX5_minutesToHighWater_11 rfl rfl ?_
  refine j_iconst K 0 dX5_minutesToHighWater_12 rfl ?_
  refine j_sipush K 1439 dX5_minutesToHighWater_13 rfl ?_
  refine j_cS3n K dX5_minutesToHighWater_16 m_X5_demandWithin s_X5_demandWithin k_X5_55 (c_dW _ _ _ hy) (Nat.le_of_ble_eq_true rfl) ⟨by decide, by decide⟩ (by decide) (by decide) ?_
  refine j_aload K dX5_minutesToHighWater_19 rfl ?_
  refine j_iload_n K 2 dX5_minutesToHighWater_21 rfl rfl ?_
  refine j_iload_n K 3 dX5_minutesToHighWater_22 rfl rfl ?_
  refine j_cV2r K dX5_minutesToHighWater_23 m_X1_minutesToHigh v_X1_minutesToHigh k_X5_122 rfl ⟨by decide, rfl⟩ hl (c_X1_minutesToHigh _ _ hl (hI.2.2.1 a ha).1 (hI.2.2.1 a ha).2.1 (hI.2.2.1 a ha).2.2) (Nat.le_of_ble_eq_true rfl) ⟨by decide, by decide⟩ (by decide) (by decide) ?_
  refine j_iret K dX5_minutesToHighWater_26 ?_
  exact ⟨rfl, rfl⟩
set_option maxRecDepth 20000 in
set_option maxHeartbeats 400000 in
theorem c_minutesToHighWaterx1 {l : Launch} {D : va_G} {ca : Nat → ClassId} {q0 : Nat} {sa : Nat → Nat} {ad : jAd} {z n : Nat} {V : jV} (x d y : Int32) (hI : XI n V) (h : ¬ okP n x) : jMet l D ca q0 sa ad yX5_minutesToHighWater cX5_minutesToHighWater 5 (some .int) 2 1 6 [.ref (ad 0 0), .int x, .int d, .int y] (jS z n V) (jExc "java/lang/IndexOutOfBoundsException" (jS z n V)) := by
  refine j_enter RX5 [some (.ref (ad 0 0)), some (.int x), some (.int d), some (.int y), none] rfl (by decide) (by simp [Value.category]) (Nat.le_of_ble_eq_true rfl) rfl ?_
  intro p e s m args below meth c K hnm hX
  refine j_aload_n K 0 dX5_minutesToHighWater_0 rfl rfl ?_
  refine j_iload_n K 1 dX5_minutesToHighWater_1 rfl rfl ?_
  exact j_cV1x K dX5_minutesToHighWater_2 m_X5_pierNumbered v_X5_pierNumbered k_X5_95 rfl ⟨by decide, rfl⟩ rfl (c_pNx _ hI h) (Nat.le_of_ble_eq_true rfl) ⟨by decide, by decide⟩ (by decide) (by decide) hX (fun _ => ⟨rfl, rfl⟩)
set_option maxRecDepth 20000 in
set_option maxHeartbeats 400000 in
theorem c_minutesToHighWaterx2 {l : Launch} {D : va_G} {ca : Nat → ClassId} {q0 : Nat} {sa : Nat → Nat} {ad : jAd} {z n : Nat} {V : jV} {a : Nat} (x d y : Int32) (hI : XI n V) (ha : a < n) (hx : x = nI a) (h : ¬ (0 ≤ d ∧ d ≤ 99999)) : jMet l D ca q0 sa ad yX5_minutesToHighWater cX5_minutesToHighWater 5 (some .int) 2 1 6 [.ref (ad 0 0), .int x, .int d, .int y] (jS z n V) (jExc "java/lang/IllegalArgumentException" (jS z n V)) := by
  refine j_enter RX5 [some (.ref (ad 0 0)), some (.int x), some (.int d), some (.int y), none] rfl (by decide) (by simp [Value.category]) (Nat.le_of_ble_eq_true rfl) rfl ?_
  intro p e s m args below meth c K hnm hX
  have hn6 := hI.1
  have hl : decide (a < n) = true := decide_eq_true ha
  have ht : LV n 6 a = true := lv_pier ha
  refine j_aload_n K 0 dX5_minutesToHighWater_0 rfl rfl ?_
  refine j_iload_n K 1 dX5_minutesToHighWater_1 rfl rfl ?_
  refine j_cV1r K dX5_minutesToHighWater_2 m_X5_pierNumbered v_X5_pierNumbered k_X5_95 rfl ⟨by decide, rfl⟩ rfl (c_pN _ hI ha hx) (Nat.le_of_ble_eq_true rfl) ⟨by decide, by decide⟩ (by decide) (by decide) ?_
  refine j_astore K dX5_minutesToHighWater_5 (by decide) ?_
  refine j_iload_n K 2 dX5_minutesToHighWater_7 rfl rfl ?_
  exact j_cS1x K dX5_minutesToHighWater_8 m_X5_demandDay s_X5_demandDay k_X5_88 (c_dDx _ h) (Nat.le_of_ble_eq_true rfl) ⟨by decide, by decide⟩ (by decide) (by decide) hX (fun _ => ⟨rfl, rfl⟩)
set_option maxRecDepth 20000 in
set_option maxHeartbeats 400000 in
theorem c_minutesToHighWaterx3 {l : Launch} {D : va_G} {ca : Nat → ClassId} {q0 : Nat} {sa : Nat → Nat} {ad : jAd} {z n : Nat} {V : jV} {a : Nat} (x d y : Int32) (hI : XI n V) (ha : a < n) (hx : x = nI a) (hd : 0 ≤ d ∧ d ≤ 99999) (h : ¬ (0 ≤ y ∧ y ≤ 1439)) : jMet l D ca q0 sa ad yX5_minutesToHighWater cX5_minutesToHighWater 5 (some .int) 2 1 6 [.ref (ad 0 0), .int x, .int d, .int y] (jS z n V) (jExc "java/lang/IllegalArgumentException" (jS z n V)) := by
  refine j_enter RX5 [some (.ref (ad 0 0)), some (.int x), some (.int d), some (.int y), none] rfl (by decide) (by simp [Value.category]) (Nat.le_of_ble_eq_true rfl) rfl ?_
  intro p e s m args below meth c K hnm hX
  have hn6 := hI.1
  have hl : decide (a < n) = true := decide_eq_true ha
  have ht : LV n 6 a = true := lv_pier ha
  refine j_aload_n K 0 dX5_minutesToHighWater_0 rfl rfl ?_
  refine j_iload_n K 1 dX5_minutesToHighWater_1 rfl rfl ?_
  refine j_cV1r K dX5_minutesToHighWater_2 m_X5_pierNumbered v_X5_pierNumbered k_X5_95 rfl ⟨by decide, rfl⟩ rfl (c_pN _ hI ha hx) (Nat.le_of_ble_eq_true rfl) ⟨by decide, by decide⟩ (by decide) (by decide) ?_
  refine j_astore K dX5_minutesToHighWater_5 (by decide) ?_
  refine j_iload_n K 2 dX5_minutesToHighWater_7 rfl rfl ?_
  refine j_cS1n K dX5_minutesToHighWater_8 m_X5_demandDay s_X5_demandDay k_X5_88 (c_dD _ hd) (Nat.le_of_ble_eq_true rfl) ⟨by decide, by decide⟩ (by decide) (by decide) ?_
  refine j_iload_n K 3 dX5_minutesToHighWater_11 rfl rfl ?_
  refine j_iconst K 0 dX5_minutesToHighWater_12 rfl ?_
  refine j_sipush K 1439 dX5_minutesToHighWater_13 rfl ?_
  exact j_cS3x K dX5_minutesToHighWater_16 m_X5_demandWithin s_X5_demandWithin k_X5_55 (c_dWx _ _ _ h) (Nat.le_of_ble_eq_true rfl) ⟨by decide, by decide⟩ (by decide) (by decide) hX (fun _ => ⟨rfl, rfl⟩)
