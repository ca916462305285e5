def wtT (V : jV) (a cnt : Nat) (d : Int32) : jV := tabY (thr (thr V 0) 0) a cnt d
def wtC (V : jV) (a cnt : Nat) (d : Int32) : Nat := tn (wtT V a cnt d 20 0 29)
theorem wtC_1 {V : jV} {a cnt : Nat} {d : Int32} : wtT V a cnt d 20 0 29 = nI (wtC V a cnt d) ∧ wtC V a cnt d ≤ 4 := tab_w
set_option maxRecDepth 20000 in
set_option maxHeartbeats 400000 in
theorem c_Mwat1 {l : Launch} {D : va_G} {ca : Nat → ClassId} {q0 : Nat} {sa : Nat → Nat} {ad : jAd} {z n : Nat} {V : jV} (x d y : Int32) (hI : n ≤ 6 ∧ V 20 0 1 = nI n) (h : ¬ (0 ≤ d ∧ d ≤ 99999))  : jMet l D ca q0 sa ad yX6_isWater cX6_isWater 4 (some .boolean) 3 0 0 [.ref (ad 20 0), .int x, .int d, .int y] (jS z n V) (jRet (some (.int 0)) (jS z n (thr V 1))) := by
  refine j_enter RX6 [some (.ref (ad 20 0)), some (.int x), some (.int d), some (.int y)] rfl (by decide) (by simp [Value.category]) (Nat.le_of_ble_eq_true rfl) rfl ?_
  intro p e s m args below meth c K hnm hX
  have hn6 := hI.1
  have hp := hI.2
  refine j_aload_n K 0 dX6_isWater_0 rfl rfl ?_
  refine j_iload_n K 2 dX6_isWater_1 rfl rfl ?_
  refine j_cS1r K dX6_isWater_2 m_X6_isDay s_X6_isDay k_X6_121 (c_MD0 _ h) (Nat.le_of_ble_eq_true rfl) ⟨by decide, by decide⟩ (by decide) (by decide) ?_
  refine j_iconst K 1 dX6_isWater_5 rfl ?_
  refine j_cV2r K dX6_isWater_6 m_X6_isGood v_X6_isGood k_X6_93 rfl ⟨by decide, rfl⟩ rfl (c_MG0 _) (Nat.le_of_ble_eq_true rfl) ⟨by decide, by decide⟩ (by decide) (by decide) ?_
  refine j_if_eq K 31 dX6_isWater_9 (by decide) (fun h_9 => ?_) (fun h_9 => absurd (by decide) h_9)
  refine j_iconst K 0 dX6_isWater_31 rfl ?_
  refine j_zret K dX6_isWater_32 (by simp) ?_
  exact ⟨rfl, rfl⟩
set_option maxRecDepth 20000 in
set_option maxHeartbeats 400000 in
theorem c_Mwat2 {l : Launch} {D : va_G} {ca : Nat → ClassId} {q0 : Nat} {sa : Nat → Nat} {ad : jAd} {z n : Nat} {V : jV} (x d y : Int32) (hI : n ≤ 6 ∧ V 20 0 1 = nI n) (hd : 0 ≤ d ∧ d ≤ 99999) (h : ¬ okP n x)  : jMet l D ca q0 sa ad yX6_isWater cX6_isWater 4 (some .boolean) 3 0 0 [.ref (ad 20 0), .int x, .int d, .int y] (jS z n V) (jRet (some (.int 0)) (jS z n (thr (thr V 0) 2))) := by
  refine j_enter RX6 [some (.ref (ad 20 0)), some (.int x), some (.int d), some (.int y)] rfl (by decide) (by simp [Value.category]) (Nat.le_of_ble_eq_true rfl) rfl ?_
  intro p e s m args below meth c K hnm hX
  have hn6 := hI.1
  have hp := hI.2
  refine j_aload_n K 0 dX6_isWater_0 rfl rfl ?_
  refine j_iload_n K 2 dX6_isWater_1 rfl rfl ?_
  refine j_cS1r K dX6_isWater_2 m_X6_isDay s_X6_isDay k_X6_121 (c_MD _ hd) (Nat.le_of_ble_eq_true rfl) ⟨by decide, by decide⟩ (by decide) (by decide) ?_
  refine j_iconst K 1 dX6_isWater_5 rfl ?_
  refine j_cV2r K dX6_isWater_6 m_X6_isGood v_X6_isGood k_X6_93 rfl ⟨by decide, rfl⟩ rfl (c_MG _) (Nat.le_of_ble_eq_true rfl) ⟨by decide, by decide⟩ (by decide) (by decide) ?_
  refine j_if_eq K 31 dX6_isWater_9 (by decide) (fun h_9 => absurd h_9 (by decide)) (fun h_9 => ?_)
  refine j_aload_n K 0 dX6_isWater_12 rfl rfl ?_
  refine j_iload_n K 1 dX6_isWater_13 rfl rfl ?_
  refine j_iconst K 0 dX6_isWater_14 rfl ?_
  refine j_aload_n K 0 dX6_isWater_15 rfl rfl ?_
  refine jGi K dX6_isWater_16 f_X6_86 rfl rfl rfl ?_
  refine j_iconst K 1 dX6_isWater_19 rfl ?_
  refine j_isub K dX6_isWater_20 ?_
  refine j_cS3r K dX6_isWater_21 m_X6_isWithin s_X6_isWithin k_X6_89 (c_MW0 _ _ _ (fun q => h ((okP_in hI.1 hI.2).mpr q))) (Nat.le_of_ble_eq_true rfl) ⟨by decide, by decide⟩ (by decide) (by decide) ?_
  refine j_iconst K 2 dX6_isWater_24 rfl ?_
  refine j_cV2r K dX6_isWater_25 m_X6_isGood v_X6_isGood k_X6_93 rfl ⟨by decide, rfl⟩ rfl (c_MG0 (V := thr V 0) _) (Nat.le_of_ble_eq_true rfl) ⟨by decide, by decide⟩ (by decide) (by decide) ?_
  refine j_if_ne K 33 dX6_isWater_28 (by decide) (fun h_28 => absurd (by decide) h_28) (fun h_28 => ?_)
  refine j_iconst K 0 dX6_isWater_31 rfl ?_
  refine j_zret K dX6_isWater_32 (by simp) ?_
  exact ⟨rfl, rfl⟩
set_option maxRecDepth 20000 in
set_option maxHeartbeats 400000 in
theorem c_Mwat3 {l : Launch} {D : va_G} {ca : Nat → ClassId} {q0 : Nat} {sa : Nat → Nat} {ad : jAd} {z n a cnt : Nat} {V : jV} (x d y : Int32) (hI : n ≤ 6 ∧ V 20 0 1 = nI n) (ha : a < n) (hx : x = nI a) (hd : 0 ≤ d ∧ d ≤ 99999) (hR : YR V a cnt) (hy : ¬ okP (wtC V a cnt d) y)  : jMet l D ca q0 sa ad yX6_isWater cX6_isWater 4 (some .boolean) 3 0 0 [.ref (ad 20 0), .int x, .int d, .int y] (jS z n V) (jRet (some (.int 0)) (jS z n (thr (wtT V a cnt d) 2))) := by
  refine j_enter RX6 [some (.ref (ad 20 0)), some (.int x), some (.int d), some (.int y)] rfl (by decide) (by simp [Value.category]) (Nat.le_of_ble_eq_true rfl) rfl ?_
  intro p e s m args below meth c K hnm hX
  have hn6 := hI.1
  have hp := hI.2
  refine j_aload_n K 0 dX6_isWater_0 rfl rfl ?_
  refine j_iload_n K 2 dX6_isWater_1 rfl rfl ?_
  refine j_cS1r K dX6_isWater_2 m_X6_isDay s_X6_isDay k_X6_121 (c_MD _ hd) (Nat.le_of_ble_eq_true rfl) ⟨by decide, by decide⟩ (by decide) (by decide) ?_
  refine j_iconst K 1 dX6_isWater_5 rfl ?_
  refine j_cV2r K dX6_isWater_6 m_X6_isGood v_X6_isGood k_X6_93 rfl ⟨by decide, rfl⟩ rfl (c_MG _) (Nat.le_of_ble_eq_true rfl) ⟨by decide, by decide⟩ (by decide) (by decide) ?_
  refine j_if_eq K 31 dX6_isWater_9 (by decide) (fun h_9 => absurd h_9 (by decide)) (fun h_9 => ?_)
  refine j_aload_n K 0 dX6_isWater_12 rfl rfl ?_
  refine j_iload_n K 1 dX6_isWater_13 rfl rfl ?_
  refine j_iconst K 0 dX6_isWater_14 rfl ?_
  refine j_aload_n K 0 dX6_isWater_15 rfl rfl ?_
  refine jGi K dX6_isWater_16 f_X6_86 rfl rfl rfl ?_
  refine j_iconst K 1 dX6_isWater_19 rfl ?_
  refine j_isub K dX6_isWater_20 ?_
  refine j_cS3r K dX6_isWater_21 m_X6_isWithin s_X6_isWithin k_X6_89 (c_MW _ _ _ ((okP_in hI.1 hI.2).mp ⟨a, ha, hx⟩)) (Nat.le_of_ble_eq_true rfl) ⟨by decide, by decide⟩ (by decide) (by decide) ?_
  refine j_iconst K 2 dX6_isWater_24 rfl ?_
  refine j_cV2r K dX6_isWater_25 m_X6_isGood v_X6_isGood k_X6_93 rfl ⟨by decide, rfl⟩ rfl (c_MG (V := thr V 0) _) (Nat.le_of_ble_eq_true rfl) ⟨by decide, by decide⟩ (by decide) (by decide) ?_
  refine j_if_ne K 33 dX6_isWater_28 (by decide) (fun h_28 => ?_) (fun h_28 => absurd h_28 (by decide))
  refine j_aload_n K 0 dX6_isWater_33 rfl rfl ?_
  refine j_iload_n K 1 dX6_isWater_34 rfl rfl ?_
  refine j_iload_n K 2 dX6_isWater_35 rfl rfl ?_
  refine j_cV2n K dX6_isWater_36 m_X6_findTable v_X6_findTable k_X6_140 rfl ⟨by decide, rfl⟩ rfl (c_Mfind (V := thr (thr V 0) 0) _ _ hn6 ha hx hR) (Nat.le_of_ble_eq_true rfl) ⟨by decide, by decide⟩ (by decide) (by decide) ?_
  refine j_aload_n K 0 dX6_isWater_39 rfl rfl ?_
  refine j_iload_n K 3 dX6_isWater_40 rfl rfl ?_
  refine j_iconst K 0 dX6_isWater_41 rfl ?_
  refine j_aload_n K 0 dX6_isWater_42 rfl rfl ?_
  refine jGi K dX6_isWater_43 f_X6_134 rfl rfl rfl ?_
  refine j_iconst K 1 dX6_isWater_46 rfl ?_
  refine j_isub K dX6_isWater_47 ?_
  refine j_cS3r K dX6_isWater_48 m_X6_isWithin s_X6_isWithin k_X6_89 (c_MW0 _ _ _ (fun q => hy ((okP_in (n := wtC V a cnt d) (by have := (wtC_1 (V := V) (a := a) (cnt := cnt) (d := d)).2; omega) wtC_1.1).mpr q))) (Nat.le_of_ble_eq_true rfl) ⟨by decide, by decide⟩ (by decide) (by decide) ?_
  refine j_iconst K 2 dX6_isWater_51 rfl ?_
  refine j_cV2r K dX6_isWater_52 m_X6_isGood v_X6_isGood k_X6_93 rfl ⟨by decide, rfl⟩ rfl (c_MG0 (V := wtT V a cnt d) _) (Nat.le_of_ble_eq_true rfl) ⟨by decide, by decide⟩ (by decide) (by decide) ?_
  refine j_zret K dX6_isWater_55 (by simp) ?_
  exact ⟨rfl, rfl⟩
set_option maxRecDepth 20000 in
set_option maxHeartbeats 400000 in
theorem c_Mwat {l : Launch} {D : va_G} {ca : Nat → ClassId} {q0 : Nat} {sa : Nat → Nat} {ad : jAd} {z n a cnt : Nat} {V : jV} (x d y : Int32) (hI : n ≤ 6 ∧ V 20 0 1 = nI n) (ha : a < n) (hx : x = nI a) (hd : 0 ≤ d ∧ d ≤ 99999) (hR : YR V a cnt) (hy : okP (wtC V a cnt d) y)  : jMet l D ca q0 sa ad yX6_isWater cX6_isWater 4 (some .boolean) 3 0 0 [.ref (ad 20 0), .int x, .int d, .int y] (jS z n V) (jRet (some (.int 1)) (jS z n (thr (wtT V a cnt d) 0))) := by
  refine j_enter RX6 [some (.ref (ad 20 0)), some (.int x), some (.int d), some (.int y)] rfl (by decide) (by simp [Value.category]) (Nat.le_of_ble_eq_true rfl) rfl ?_
  intro p e s m args below meth c K hnm hX
  have hn6 := hI.1
  have hp := hI.2
  refine j_aload_n K 0 dX6_isWater_0 rfl rfl ?_
  refine j_iload_n K 2 dX6_isWater_1 rfl rfl ?_
  refine j_cS1r K dX6_isWater_2 m_X6_isDay s_X6_isDay k_X6_121 (c_MD _ hd) (Nat.le_of_ble_eq_true rfl) ⟨by decide, by decide⟩ (by decide) (by decide) ?_
  refine j_iconst K 1 dX6_isWater_5 rfl ?_
  refine j_cV2r K dX6_isWater_6 m_X6_isGood v_X6_isGood k_X6_93 rfl ⟨by decide, rfl⟩ rfl (c_MG _) (Nat.le_of_ble_eq_true rfl) ⟨by decide, by decide⟩ (by decide) (by decide) ?_
  refine j_if_eq K 31 dX6_isWater_9 (by decide) (fun h_9 => absurd h_9 (by decide)) (fun h_9 => ?_)
  refine j_aload_n K 0 dX6_isWater_12 rfl rfl ?_
  refine j_iload_n K 1 dX6_isWater_13 rfl rfl ?_
  refine j_iconst K 0 dX6_isWater_14 rfl ?_
  refine j_aload_n K 0 dX6_isWater_15 rfl rfl ?_
  refine jGi K dX6_isWater_16 f_X6_86 rfl rfl rfl ?_
  refine j_iconst K 1 dX6_isWater_19 rfl ?_
  refine j_isub K dX6_isWater_20 ?_
  refine j_cS3r K dX6_isWater_21 m_X6_isWithin s_X6_isWithin k_X6_89 (c_MW _ _ _ ((okP_in hI.1 hI.2).mp ⟨a, ha, hx⟩)) (Nat.le_of_ble_eq_true rfl) ⟨by decide, by decide⟩ (by decide) (by decide) ?_
  refine j_iconst K 2 dX6_isWater_24 rfl ?_
  refine j_cV2r K dX6_isWater_25 m_X6_isGood v_X6_isGood k_X6_93 rfl ⟨by decide, rfl⟩ rfl (c_MG (V := thr V 0) _) (Nat.le_of_ble_eq_true rfl) ⟨by decide, by decide⟩ (by decide) (by decide) ?_
  refine j_if_ne K 33 dX6_isWater_28 (by decide) (fun h_28 => ?_) (fun h_28 => absurd h_28 (by decide))
  refine j_aload_n K 0 dX6_isWater_33 rfl rfl ?_
  refine j_iload_n K 1 dX6_isWater_34 rfl rfl ?_
  refine j_iload_n K 2 dX6_isWater_35 rfl rfl ?_
  refine j_cV2n K dX6_isWater_36 m_X6_findTable v_X6_findTable k_X6_140 rfl ⟨by decide, rfl⟩ rfl (c_Mfind (V := thr (thr V 0) 0) _ _ hn6 ha hx hR) (Nat.le_of_ble_eq_true rfl) ⟨by decide, by decide⟩ (by decide) (by decide) ?_
  refine j_aload_n K 0 dX6_isWater_39 rfl rfl ?_
  refine j_iload_n K 3 dX6_isWater_40 rfl rfl ?_
  refine j_iconst K 0 dX6_isWater_41 rfl ?_
  refine j_aload_n K 0 dX6_isWater_42 rfl rfl ?_
  refine jGi K dX6_isWater_43 f_X6_134 rfl rfl rfl ?_
  refine j_iconst K 1 dX6_isWater_46 rfl ?_
  refine j_isub K dX6_isWater_47 ?_
  refine j_cS3r K dX6_isWater_48 m_X6_isWithin s_X6_isWithin k_X6_89 (c_MW _ _ _ ((okP_in (n := wtC V a cnt d) (by have := (wtC_1 (V := V) (a := a) (cnt := cnt) (d := d)).2; omega) wtC_1.1).mp hy)) (Nat.le_of_ble_eq_true rfl) ⟨by decide, by decide⟩ (by decide) (by decide) ?_
  refine j_iconst K 2 dX6_isWater_51 rfl ?_
  refine j_cV2r K dX6_isWater_52 m_X6_isGood v_X6_isGood k_X6_93 rfl ⟨by decide, rfl⟩ rfl (c_MG (V := wtT V a cnt d) _) (Nat.le_of_ble_eq_true rfl) ⟨by decide, by decide⟩ (by decide) (by decide) ?_
  refine j_zret K dX6_isWater_55 (by simp) ?_
  exact ⟨rfl, rfl⟩
set_option maxRecDepth 20000 in
set_option maxHeartbeats 400000 in
theorem c_M_waterMinutex1 {l : Launch} {D : va_G} {ca : Nat → ClassId} {q0 : Nat} {sa : Nat → Nat} {ad : jAd} {z n : Nat} {V : jV} (x d y : Int32) (hI : n ≤ 6 ∧ V 20 0 1 = nI n) (h : ¬ (0 ≤ d ∧ d ≤ 99999))  : jMet l D ca q0 sa ad yX6_waterMinute cX6_waterMinute 4 (some .int) 4 0 0 [.ref (ad 20 0), .int x, .int d, .int y] (jS z n V) (jRet (some (.int 0)) (jS z n (thr V 1))) := by
  refine j_enter RX6 [some (.ref (ad 20 0)), some (.int x), some (.int d), some (.int y)] rfl (by decide) (by simp [Value.category]) (Nat.le_of_ble_eq_true rfl) rfl ?_
  intro p e s m args below meth c K hnm hX
  have hn6 := hI.1
  have hp := hI.2
  refine j_aload_n K 0 dX6_waterMinute_0 rfl rfl ?_
  refine j_iload_n K 1 dX6_waterMinute_1 rfl rfl ?_
  refine j_iload_n K 2 dX6_waterMinute_2 rfl rfl ?_
  refine j_iload_n K 3 dX6_waterMinute_3 rfl rfl ?_
  refine j_cV3r K dX6_waterMinute_4 m_X6_isWater v_X6_isWater k_X6_143 rfl ⟨by decide, rfl⟩ rfl (c_Mwat1 _ _ _ hI h) (Nat.le_of_ble_eq_true rfl) ⟨by decide, by decide⟩ (by decide) (by decide) ?_
  refine j_if_eq K 19 dX6_waterMinute_7 (by decide) (fun h_7 => ?_) (fun h_7 => absurd (by decide) h_7)
  refine j_iconst K 0 dX6_waterMinute_19 rfl ?_
  refine j_iret K dX6_waterMinute_20 ?_
  exact ⟨rfl, rfl⟩
set_option maxRecDepth 20000 in
set_option maxHeartbeats 400000 in
theorem c_M_waterMinutex2 {l : Launch} {D : va_G} {ca : Nat → ClassId} {q0 : Nat} {sa : Nat → Nat} {ad : jAd} {z n : Nat} {V : jV} (x d y : Int32) (hI : n ≤ 6 ∧ V 20 0 1 = nI n) (hd : 0 ≤ d ∧ d ≤ 99999) (h : ¬ okP n x)  : jMet l D ca q0 sa ad yX6_waterMinute cX6_waterMinute 4 (some .int) 4 0 0 [.ref (ad 20 0), .int x, .int d, .int y] (jS z n V) (jRet (some (.int 0)) (jS z n (thr (thr V 0) 2))) := by
  refine j_enter RX6 [some (.ref (ad 20 0)), some (.int x), some (.int d), some (.int y)] rfl (by decide) (by simp [Value.category]) (Nat.le_of_ble_eq_true rfl) rfl ?_
  intro p e s m args below meth c K hnm hX
  have hn6 := hI.1
  have hp := hI.2
  refine j_aload_n K 0 dX6_waterMinute_0 rfl rfl ?_
  refine j_iload_n K 1 dX6_waterMinute_1 rfl rfl ?_
  refine j_iload_n K 2 dX6_waterMinute_2 rfl rfl ?_
  refine j_iload_n K 3 dX6_waterMinute_3 rfl rfl ?_
  refine j_cV3r K dX6_waterMinute_4 m_X6_isWater v_X6_isWater k_X6_143 rfl ⟨by decide, rfl⟩ rfl (c_Mwat2 _ _ _ hI hd h) (Nat.le_of_ble_eq_true rfl) ⟨by decide, by decide⟩ (by decide) (by decide) ?_
  refine j_if_eq K 19 dX6_waterMinute_7 (by decide) (fun h_7 => ?_) (fun h_7 => absurd (by decide) h_7)
  refine j_iconst K 0 dX6_waterMinute_19 rfl ?_
  refine j_iret K dX6_waterMinute_20 ?_
  exact ⟨rfl, rfl⟩
set_option maxRecDepth 20000 in
set_option maxHeartbeats 400000 in
theorem c_M_waterMinutex3 {l : Launch} {D : va_G} {ca : Nat → ClassId} {q0 : Nat} {sa : Nat → Nat} {ad : jAd} {z n a cnt : Nat} {V : jV} (x d y : Int32) (hI : n ≤ 6 ∧ V 20 0 1 = nI n) (ha : a < n) (hx : x = nI a) (hd : 0 ≤ d ∧ d ≤ 99999) (hR : YR V a cnt) (hy : ¬ okP (wtC V a cnt d) y)  : jMet l D ca q0 sa ad yX6_waterMinute cX6_waterMinute 4 (some .int) 4 0 0 [.ref (ad 20 0), .int x, .int d, .int y] (jS z n V) (jRet (some (.int 0)) (jS z n (thr (wtT V a cnt d) 2))) := by
  refine j_enter RX6 [some (.ref (ad 20 0)), some (.int x), some (.int d), some (.int y)] rfl (by decide) (by simp [Value.category]) (Nat.le_of_ble_eq_true rfl) rfl ?_
  intro p e s m args below meth c K hnm hX
  have hn6 := hI.1
  have hp := hI.2
  refine j_aload_n K 0 dX6_waterMinute_0 rfl rfl ?_
  refine j_iload_n K 1 dX6_waterMinute_1 rfl rfl ?_
  refine j_iload_n K 2 dX6_waterMinute_2 rfl rfl ?_
  refine j_iload_n K 3 dX6_waterMinute_3 rfl rfl ?_
  refine j_cV3r K dX6_waterMinute_4 m_X6_isWater v_X6_isWater k_X6_143 rfl ⟨by decide, rfl⟩ rfl (c_Mwat3 _ _ _ hI ha hx hd hR hy) (Nat.le_of_ble_eq_true rfl) ⟨by decide, by decide⟩ (by decide) (by decide) ?_
  refine j_if_eq K 19 dX6_waterMinute_7 (by decide) (fun h_7 => ?_) (fun h_7 => absurd (by decide) h_7)
  refine j_iconst K 0 dX6_waterMinute_19 rfl ?_
  refine j_iret K dX6_waterMinute_20 ?_
  exact ⟨rfl, rfl⟩
set_option maxRecDepth 20000 in
set_option maxHeartbeats 400000 in
theorem c_M_waterMinute {l : Launch} {D : va_G} {ca : Nat → ClassId} {q0 : Nat} {sa : Nat → Nat} {ad : jAd} {z n a cnt j : Nat} {V : jV} (x d y : Int32) (hI : n ≤ 6 ∧ V 20 0 1 = nI n) (ha : a < n) (hx : x = nI a) (hd : 0 ≤ d ∧ d ≤ 99999) (hR : YR V a cnt) (hj : j < wtC V a cnt d) (hy : y = nI j)  : jMet l D ca q0 sa ad yX6_waterMinute cX6_waterMinute 4 (some .int) 4 0 0 [.ref (ad 20 0), .int x, .int d, .int y] (jS z n V) (jRet (some (.int (wtT V a cnt d 51 0 j))) (jS z n (thr (wtT V a cnt d) 0))) := by
  refine j_enter RX6 [some (.ref (ad 20 0)), some (.int x), some (.int d), some (.int y)] rfl (by decide) (by simp [Value.category]) (Nat.le_of_ble_eq_true rfl) rfl ?_
  intro p e s m args below meth c K hnm hX
  have hn6 := hI.1
  have hp := hI.2
  have hw4 := (wtC_1 (V := V) (a := a) (cnt := cnt) (d := d)).2
  refine j_aload_n K 0 dX6_waterMinute_0 rfl rfl ?_
  refine j_iload_n K 1 dX6_waterMinute_1 rfl rfl ?_
  refine j_iload_n K 2 dX6_waterMinute_2 rfl rfl ?_
  refine j_iload_n K 3 dX6_waterMinute_3 rfl rfl ?_
  refine j_cV3r K dX6_waterMinute_4 m_X6_isWater v_X6_isWater k_X6_143 rfl ⟨by decide, rfl⟩ rfl (c_Mwat _ _ _ hI ha hx hd hR ⟨j, hj, hy⟩) (Nat.le_of_ble_eq_true rfl) ⟨by decide, by decide⟩ (by decide) (by decide) ?_
  refine j_if_eq K 19 dX6_waterMinute_7 (by decide) (fun h_7 => absurd h_7 (by decide)) (fun h_7 => ?_)
  refine j_aload_n K 0 dX6_waterMinute_10 rfl rfl ?_
  refine jGr K 51 0 dX6_waterMinute_11 f_X6_77 rfl rfl rfl rfl ?_
  refine j_iload_n K 3 dX6_waterMinute_14 rfl rfl ?_
  refine jIald K (j) dX6_waterMinute_15 rfl rfl hy (by omega) ?_
  refine j_goto K 20 dX6_waterMinute_16 (by decide) ?_
  refine j_iret K dX6_waterMinute_20 ?_
  exact ⟨rfl, rfl⟩
set_option maxRecDepth 20000 in
set_option maxHeartbeats 400000 in
theorem c_M_waterHeightx1 {l : Launch} {D : va_G} {ca : Nat → ClassId} {q0 : Nat} {sa : Nat → Nat} {ad : jAd} {z n : Nat} {V : jV} (x d y : Int32) (hI : n ≤ 6 ∧ V 20 0 1 = nI n) (h : ¬ (0 ≤ d ∧ d ≤ 99999))  : jMet l D ca q0 sa ad yX6_waterHeight cX6_waterHeight 4 (some .int) 4 0 0 [.ref (ad 20 0), .int x, .int d, .int y] (jS z n V) (jRet (some (.int 0)) (jS z n (thr V 1))) := by
  refine j_enter RX6 [some (.ref (ad 20 0)), some (.int x), some (.int d), some (.int y)] rfl (by decide) (by simp [Value.category]) (Nat.le_of_ble_eq_true rfl) rfl ?_
  intro p e s m args below meth c K hnm hX
  have hn6 := hI.1
  have hp := hI.2
  refine j_aload_n K 0 dX6_waterHeight_0 rfl rfl ?_
  refine j_iload_n K 1 dX6_waterHeight_1 rfl rfl ?_
  refine j_iload_n K 2 dX6_waterHeight_2 rfl rfl ?_
  refine j_iload_n K 3 dX6_waterHeight_3 rfl rfl ?_
  refine j_cV3r K dX6_waterHeight_4 m_X6_isWater v_X6_isWater k_X6_143 rfl ⟨by decide, rfl⟩ rfl (c_Mwat1 _ _ _ hI h) (Nat.le_of_ble_eq_true rfl) ⟨by decide, by decide⟩ (by decide) (by decide) ?_
  refine j_if_eq K 25 dX6_waterHeight_7 (by decide) (fun h_7 => ?_) (fun h_7 => absurd (by decide) h_7)
  refine j_iconst K 0 dX6_waterHeight_25 rfl ?_
  refine j_iret K dX6_waterHeight_26 ?_
  exact ⟨rfl, rfl⟩
set_option maxRecDepth 20000 in
set_option maxHeartbeats 400000 in
theorem c_M_waterHeightx2 {l : Launch} {D : va_G} {ca : Nat → ClassId} {q0 : Nat} {sa : Nat → Nat} {ad : jAd} {z n : Nat} {V : jV} (x d y : Int32) (hI : n ≤ 6 ∧ V 20 0 1 = nI n) (hd : 0 ≤ d ∧ d ≤ 99999) (h : ¬ okP n x)  : jMet l D ca q0 sa ad yX6_waterHeight cX6_waterHeight 4 (some .int) 4 0 0 [.ref (ad 20 0), .int x, .int d, .int y] (jS z n V) (jRet (some (.int 0)) (jS z n (thr (thr V 0) 2))) := by
  refine j_enter RX6 [some (.ref (ad 20 0)), some (.int x), some (.int d), some (.int y)] rfl (by decide) (by simp [Value.category]) (Nat.le_of_ble_eq_true rfl) rfl ?_
  intro p e s m args below meth c K hnm hX
  have hn6 := hI.1
  have hp := hI.2
  refine j_aload_n K 0 dX6_waterHeight_0 rfl rfl ?_
  refine j_iload_n K 1 dX6_waterHeight_1 rfl rfl ?_
  refine j_iload_n K 2 dX6_waterHeight_2 rfl rfl ?_
  refine j_iload_n K 3 dX6_waterHeight_3 rfl rfl ?_
  refine j_cV3r K dX6_waterHeight_4 m_X6_isWater v_X6_isWater k_X6_143 rfl ⟨by decide, rfl⟩ rfl (c_Mwat2 _ _ _ hI hd h) (Nat.le_of_ble_eq_true rfl) ⟨by decide, by decide⟩ (by decide) (by decide) ?_
  refine j_if_eq K 25 dX6_waterHeight_7 (by decide) (fun h_7 => ?_) (fun h_7 => absurd (by decide) h_7)
  refine j_iconst K 0 dX6_waterHeight_25 rfl ?_
  refine j_iret K dX6_waterHeight_26 ?_
  exact ⟨rfl, rfl⟩
set_option maxRecDepth 20000 in
set_option maxHeartbeats 400000 in
theorem c_M_waterHeightx3 {l : Launch} {D : va_G} {ca : Nat → ClassId} {q0 : Nat} {sa : Nat → Nat} {ad : jAd} {z n a cnt : Nat} {V : jV} (x d y : Int32) (hI : n ≤ 6 ∧ V 20 0 1 = nI n) (ha : a < n) (hx : x = nI a) (hd : 0 ≤ d ∧ d ≤ 99999) (hR : YR V a cnt) (hy : ¬ okP (wtC V a cnt d) y)  : jMet l D ca q0 sa ad yX6_waterHeight cX6_waterHeight 4 (some .int) 4 0 0 [.ref (ad 20 0), .int x, .int d, .int y] (jS z n V) (jRet (some (.int 0)) (jS z n (thr (wtT V a cnt d) 2))) := by
  refine j_enter RX6 [some (.ref (ad 20 0)), some (.int x), some (.int d), some (.int y)] rfl (by decide) (by simp [Value.category]) (Nat.le_of_ble_eq_true rfl) rfl ?_
  intro p e s m args below meth c K hnm hX
  have hn6 := hI.1
  have hp := hI.2
  refine j_aload_n K 0 dX6_waterHeight_0 rfl rfl ?_
  refine j_iload_n K 1 dX6_waterHeight_1 rfl rfl ?_
  refine j_iload_n K 2 dX6_waterHeight_2 rfl rfl ?_
  refine j_iload_n K 3 dX6_waterHeight_3 rfl rfl ?_
  refine j_cV3r K dX6_waterHeight_4 m_X6_isWater v_X6_isWater k_X6_143 rfl ⟨by decide, rfl⟩ rfl (c_Mwat3 _ _ _ hI ha hx hd hR hy) (Nat.le_of_ble_eq_true rfl) ⟨by decide, by decide⟩ (by decide) (by decide) ?_
  refine j_if_eq K 25 dX6_waterHeight_7 (by decide) (fun h_7 => ?_) (fun h_7 => absurd (by decide) h_7)
  refine j_iconst K 0 dX6_waterHeight_25 rfl ?_
  refine j_iret K dX6_waterHeight_26 ?_
  exact ⟨rfl, rfl⟩
set_option maxRecDepth 20000 in
set_option maxHeartbeats 400000 in
theorem c_M_waterHeight {l : Launch} {D : va_G} {ca : Nat → ClassId} {q0 : Nat} {sa : Nat → Nat} {ad : jAd} {z n a cnt j : Nat} {V : jV} (x d y : Int32) (hI : n ≤ 6 ∧ V 20 0 1 = nI n) (ha : a < n) (hx : x = nI a) (hd : 0 ≤ d ∧ d ≤ 99999) (hR : YR V a cnt) (hj : j < wtC V a cnt d) (hy : y = nI j)  : jMet l D ca q0 sa ad yX6_waterHeight cX6_waterHeight 4 (some .int) 4 0 0 [.ref (ad 20 0), .int x, .int d, .int y] (jS z n V) (jRet (some (.int (if wtT V a cnt d 52 0 j = 0 then wtT V a cnt d 25 0 a + rangeY (wtT V a cnt d) a d / 2 else wtT V a cnt d 25 0 a - rangeY (wtT V a cnt d) a d / 2))) (jS z n (thr (wtT V a cnt d) 0))) := by
  refine j_enter RX6 [some (.ref (ad 20 0)), some (.int x), some (.int d), some (.int y)] rfl (by decide) (by simp [Value.category]) (Nat.le_of_ble_eq_true rfl) rfl ?_
  intro p e s m args below meth c K hnm hX
  have hn6 := hI.1
  have hp := hI.2
  have hw4 := (wtC_1 (V := V) (a := a) (cnt := cnt) (d := d)).2
  refine j_aload_n K 0 dX6_waterHeight_0 rfl rfl ?_
  refine j_iload_n K 1 dX6_waterHeight_1 rfl rfl ?_
  refine j_iload_n K 2 dX6_waterHeight_2 rfl rfl ?_
  refine j_iload_n K 3 dX6_waterHeight_3 rfl rfl ?_
  refine j_cV3r K dX6_waterHeight_4 m_X6_isWater v_X6_isWater k_X6_143 rfl ⟨by decide, rfl⟩ rfl (c_Mwat _ _ _ hI ha hx hd hR ⟨j, hj, hy⟩) (Nat.le_of_ble_eq_true rfl) ⟨by decide, by decide⟩ (by decide) (by decide) ?_
  refine j_if_eq K 25 dX6_waterHeight_7 (by decide) (fun h_7 => absurd h_7 (by decide)) (fun h_7 => ?_)
  refine j_aload_n K 0 dX6_waterHeight_10 rfl rfl ?_
  refine j_iload_n K 1 dX6_waterHeight_11 rfl rfl ?_
  refine j_iload_n K 2 dX6_waterHeight_12 rfl rfl ?_
  refine j_aload_n K 0 dX6_waterHeight_13 rfl rfl ?_
  refine jGr K 52 0 dX6_waterHeight_14 f_X6_80 rfl rfl rfl rfl ?_
  refine j_iload_n K 3 dX6_waterHeight_17 rfl rfl ?_
  refine jIald K (j) dX6_waterHeight_18 rfl rfl hy (by omega) ?_
  refine j_cV3r K dX6_waterHeight_19 m_X6_level v_X6_level k_X6_146 rfl ⟨by decide, rfl⟩ rfl (c_Mlev (V := thr (wtT V a cnt d) 0) _ _ _ hn6 ha hx) (Nat.le_of_ble_eq_true rfl) ⟨by decide, by decide⟩ (by decide) (by decide) ?_
  refine j_goto K 26 dX6_waterHeight_22 (by decide) ?_
  refine j_iret K dX6_waterHeight_26 ?_
  exact ⟨rfl, rfl⟩
set_option maxRecDepth 20000 in
set_option maxHeartbeats 400000 in
theorem c_M_isHighWaterx1 {l : Launch} {D : va_G} {ca : Nat → ClassId} {q0 : Nat} {sa : Nat → Nat} {ad : jAd} {z n : Nat} {V : jV} (x d y : Int32) (hI : n ≤ 6 ∧ V 20 0 1 = nI n) (h : ¬ (0 ≤ d ∧ d ≤ 99999))  : jMet l D ca q0 sa ad yX6_isHighWater cX6_isHighWater 4 (some .boolean) 4 0 0 [.ref (ad 20 0), .int x, .int d, .int y] (jS z n V) (jRet (some (.int 0)) (jS z n (thr V 1))) := by
  refine j_enter RX6 [some (.ref (ad 20 0)), some (.int x), some (.int d), some (.int y)] rfl (by decide) (by simp [Value.category]) (Nat.le_of_ble_eq_true rfl) rfl ?_
  intro p e s m args below meth c K hnm hX
  have hn6 := hI.1
  have hp := hI.2
  refine j_aload_n K 0 dX6_isHighWater_0 rfl rfl ?_
  refine j_iload_n K 1 dX6_isHighWater_1 rfl rfl ?_
  refine j_iload_n K 2 dX6_isHighWater_2 rfl rfl ?_
  refine j_iload_n K 3 dX6_isHighWater_3 rfl rfl ?_
  refine j_cV3r K dX6_isHighWater_4 m_X6_isWater v_X6_isWater k_X6_143 rfl ⟨by decide, rfl⟩ rfl (c_Mwat1 _ _ _ hI h) (Nat.le_of_ble_eq_true rfl) ⟨by decide, by decide⟩ (by decide) (by decide) ?_
  refine j_if_eq K 23 dX6_isHighWater_7 (by decide) (fun h_7 => ?_) (fun h_7 => absurd (by decide) h_7)
  refine j_iconst K 0 dX6_isHighWater_23 rfl ?_
  refine j_zret K dX6_isHighWater_24 (by simp) ?_
  exact ⟨rfl, rfl⟩
set_option maxRecDepth 20000 in
set_option maxHeartbeats 400000 in
theorem c_M_isHighWaterx2 {l : Launch} {D : va_G} {ca : Nat → ClassId} {q0 : Nat} {sa : Nat → Nat} {ad : jAd} {z n : Nat} {V : jV} (x d y : Int32) (hI : n ≤ 6 ∧ V 20 0 1 = nI n) (hd : 0 ≤ d ∧ d ≤ 99999) (h : ¬ okP n x)  : jMet l D ca q0 sa ad yX6_isHighWater cX6_isHighWater 4 (some .boolean) 4 0 0 [.ref (ad 20 0), .int x, .int d, .int y] (jS z n V) (jRet (some (.int 0)) (jS z n (thr (thr V 0) 2))) := by
  refine j_enter RX6 [some (.ref (ad 20 0)), some (.int x), some (.int d), some (.int y)] rfl (by decide) (by simp [Value.category]) (Nat.le_of_ble_eq_true rfl) rfl ?_
  intro p e s m args below meth c K hnm hX
  have hn6 := hI.1
  have hp := hI.2
  refine j_aload_n K 0 dX6_isHighWater_0 rfl rfl ?_
  refine j_iload_n K 1 dX6_isHighWater_1 rfl rfl ?_
  refine j_iload_n K 2 dX6_isHighWater_2 rfl rfl ?_
  refine j_iload_n K 3 dX6_isHighWater_3 rfl rfl ?_
  refine j_cV3r K dX6_isHighWater_4 m_X6_isWater v_X6_isWater k_X6_143 rfl ⟨by decide, rfl⟩ rfl (c_Mwat2 _ _ _ hI hd h) (Nat.le_of_ble_eq_true rfl) ⟨by decide, by decide⟩ (by decide) (by decide) ?_
  refine j_if_eq K 23 dX6_isHighWater_7 (by decide) (fun h_7 => ?_) (fun h_7 => absurd (by decide) h_7)
  refine j_iconst K 0 dX6_isHighWater_23 rfl ?_
  refine j_zret K dX6_isHighWater_24 (by simp) ?_
  exact ⟨rfl, rfl⟩
set_option maxRecDepth 20000 in
set_option maxHeartbeats 400000 in
theorem c_M_isHighWaterx3 {l : Launch} {D : va_G} {ca : Nat → ClassId} {q0 : Nat} {sa : Nat → Nat} {ad : jAd} {z n a cnt : Nat} {V : jV} (x d y : Int32) (hI : n ≤ 6 ∧ V 20 0 1 = nI n) (ha : a < n) (hx : x = nI a) (hd : 0 ≤ d ∧ d ≤ 99999) (hR : YR V a cnt) (hy : ¬ okP (wtC V a cnt d) y)  : jMet l D ca q0 sa ad yX6_isHighWater cX6_isHighWater 4 (some .boolean) 4 0 0 [.ref (ad 20 0), .int x, .int d, .int y] (jS z n V) (jRet (some (.int 0)) (jS z n (thr (wtT V a cnt d) 2))) := by
  refine j_enter RX6 [some (.ref (ad 20 0)), some (.int x), some (.int d), some (.int y)] rfl (by decide) (by simp [Value.category]) (Nat.le_of_ble_eq_true rfl) rfl ?_
  intro p e s m args below meth c K hnm hX
  have hn6 := hI.1
  have hp := hI.2
  refine j_aload_n K 0 dX6_isHighWater_0 rfl rfl ?_
  refine j_iload_n K 1 dX6_isHighWater_1 rfl rfl ?_
  refine j_iload_n K 2 dX6_isHighWater_2 rfl rfl ?_
  refine j_iload_n K 3 dX6_isHighWater_3 rfl rfl ?_
  refine j_cV3r K dX6_isHighWater_4 m_X6_isWater v_X6_isWater k_X6_143 rfl ⟨by decide, rfl⟩ rfl (c_Mwat3 _ _ _ hI ha hx hd hR hy) (Nat.le_of_ble_eq_true rfl) ⟨by decide, by decide⟩ (by decide) (by decide) ?_
  refine j_if_eq K 23 dX6_isHighWater_7 (by decide) (fun h_7 => ?_) (fun h_7 => absurd (by decide) h_7)
  refine j_iconst K 0 dX6_isHighWater_23 rfl ?_
  refine j_zret K dX6_isHighWater_24 (by simp) ?_
  exact ⟨rfl, rfl⟩
set_option maxRecDepth 20000 in
set_option maxHeartbeats 400000 in
theorem c_M_isHighWater {l : Launch} {D : va_G} {ca : Nat → ClassId} {q0 : Nat} {sa : Nat → Nat} {ad : jAd} {z n a cnt j : Nat} {V : jV} (x d y : Int32) (hI : n ≤ 6 ∧ V 20 0 1 = nI n) (ha : a < n) (hx : x = nI a) (hd : 0 ≤ d ∧ d ≤ 99999) (hR : YR V a cnt) (hj : j < wtC V a cnt d) (hy : y = nI j)  : jMet l D ca q0 sa ad yX6_isHighWater cX6_isHighWater 4 (some .boolean) 4 0 0 [.ref (ad 20 0), .int x, .int d, .int y] (jS z n V) (jRet (some (.int (bI (decide (wtT V a cnt d 52 0 j = 0))))) (jS z n (thr (wtT V a cnt d) 0))) := by
  refine j_enter RX6 [some (.ref (ad 20 0)), some (.int x), some (.int d), some (.int y)] rfl (by decide) (by simp [Value.category]) (Nat.le_of_ble_eq_true rfl) rfl ?_
  intro p e s m args below meth c K hnm hX
  have hn6 := hI.1
  have hp := hI.2
  have hw4 := (wtC_1 (V := V) (a := a) (cnt := cnt) (d := d)).2
  refine j_aload_n K 0 dX6_isHighWater_0 rfl rfl ?_
  refine j_iload_n K 1 dX6_isHighWater_1 rfl rfl ?_
  refine j_iload_n K 2 dX6_isHighWater_2 rfl rfl ?_
  refine j_iload_n K 3 dX6_isHighWater_3 rfl rfl ?_
  refine j_cV3r K dX6_isHighWater_4 m_X6_isWater v_X6_isWater k_X6_143 rfl ⟨by decide, rfl⟩ rfl (c_Mwat _ _ _ hI ha hx hd hR ⟨j, hj, hy⟩) (Nat.le_of_ble_eq_true rfl) ⟨by decide, by decide⟩ (by decide) (by decide) ?_
  refine j_if_eq K 23 dX6_isHighWater_7 (by decide) (fun h_7 => absurd h_7 (by decide)) (fun h_7 => ?_)
  refine j_aload_n K 0 dX6_isHighWater_10 rfl rfl ?_
  refine jGr K 52 0 dX6_isHighWater_11 f_X6_80 rfl rfl rfl rfl ?_
  refine j_iload_n K 3 dX6_isHighWater_14 rfl rfl ?_
  refine jIald K (j) dX6_isHighWater_15 rfl rfl hy (by omega) ?_
  refine j_if_ne K 23 dX6_isHighWater_16 (by decide) (fun h_16 => ?_) (fun h_16 => ?_)
  · refine j_iconst K 0 dX6_isHighWater_23 rfl ?_
    refine j_zret K dX6_isHighWater_24 (by simp) ?_
    first
    | exact jret_IB (Or.inl ⟨decide_eq_true h_16, rfl⟩)
    | exact jret_IB (Or.inr ⟨decide_eq_false h_16, rfl⟩)
  · refine j_iconst K 1 dX6_isHighWater_19 rfl ?_
    refine j_goto K 24 dX6_isHighWater_20 (by decide) ?_
    refine j_zret K dX6_isHighWater_24 (by simp) ?_
    first
    | exact jret_IB (Or.inl ⟨decide_eq_true h_16, rfl⟩)
    | exact jret_IB (Or.inr ⟨decide_eq_false h_16, rfl⟩)
set_option maxRecDepth 20000 in
set_option maxHeartbeats 400000 in
theorem c_M_minutesToHighWaterx1 {l : Launch} {D : va_G} {ca : Nat → ClassId} {q0 : Nat} {sa : Nat → Nat} {ad : jAd} {z n : Nat} {V : jV} (x d y : Int32) (hI : n ≤ 6 ∧ V 20 0 1 = nI n) (h : ¬ okP n x)  : jMet l D ca q0 sa ad yX6_minutesToHighWater cX6_minutesToHighWater 5 (some .int) 3 0 0 [.ref (ad 20 0), .int x, .int d, .int y] (jS z n V) (jRet (some (.int 0)) (jS z n (thr V 1))) := by
  refine j_enter RX6 [some (.ref (ad 20 0)), some (.int x), some (.int d), some (.int y), none] rfl (by decide) (by simp [Value.category]) (Nat.le_of_ble_eq_true rfl) rfl ?_
  intro p e s m args below meth c K hnm hX
  have hn6 := hI.1
  have hp := hI.2
  refine j_aload_n K 0 dX6_minutesToHighWater_0 rfl rfl ?_
  refine j_iload_n K 1 dX6_minutesToHighWater_1 rfl rfl ?_
  refine j_cV1r K dX6_minutesToHighWater_2 m_X6_isPier v_X6_isPier k_X6_125 rfl ⟨by decide, rfl⟩ rfl (c_MP0 _ hI h) (Nat.le_of_ble_eq_true rfl) ⟨by decide, by decide⟩ (by decide) (by decide) ?_
  refine j_if_ne K 10 dX6_minutesToHighWater_5 (by decide) (fun h_5 => absurd (by decide) h_5) (fun h_5 => ?_)
  refine j_iconst K 0 dX6_minutesToHighWater_8 rfl ?_
  refine j_iret K dX6_minutesToHighWater_9 ?_
  exact ⟨rfl, rfl⟩
set_option maxRecDepth 20000 in
set_option maxHeartbeats 400000 in
theorem c_M_minutesToHighWaterx2 {l : Launch} {D : va_G} {ca : Nat → ClassId} {q0 : Nat} {sa : Nat → Nat} {ad : jAd} {z n a : Nat} {V : jV} (x d y : Int32) (hI : n ≤ 6 ∧ V 20 0 1 = nI n) (ha : a < n) (hx : x = nI a) (h : ¬ (0 ≤ d ∧ d ≤ 99999))  : jMet l D ca q0 sa ad yX6_minutesToHighWater cX6_minutesToHighWater 5 (some .int) 3 0 0 [.ref (ad 20 0), .int x, .int d, .int y] (jS z n V) (jRet (some (.int 0)) (jS z n (thr (thr V 0) 2))) := by
  refine j_enter RX6 [some (.ref (ad 20 0)), some (.int x), some (.int d), some (.int y), none] rfl (by decide) (by simp [Value.category]) (Nat.le_of_ble_eq_true rfl) rfl ?_
  intro p e s m args below meth c K hnm hX
  have hn6 := hI.1
  have hp := hI.2
  refine j_aload_n K 0 dX6_minutesToHighWater_0 rfl rfl ?_
  refine j_iload_n K 1 dX6_minutesToHighWater_1 rfl rfl ?_
  refine j_cV1r K dX6_minutesToHighWater_2 m_X6_isPier v_X6_isPier k_X6_125 rfl ⟨by decide, rfl⟩ rfl (c_MP _ hI ⟨a, ha, hx⟩) (Nat.le_of_ble_eq_true rfl) ⟨by decide, by decide⟩ (by decide) (by decide) ?_
  refine j_if_ne K 10 dX6_minutesToHighWater_5 (by decide) (fun h_5 => ?_) (fun h_5 => absurd h_5 (by decide))
  refine j_iload_n K 2 dX6_minutesToHighWater_10 rfl rfl ?_
  refine j_cS1r K dX6_minutesToHighWater_11 m_X6_isDay s_X6_isDay k_X6_121 (c_MD0 _ h) (Nat.le_of_ble_eq_true rfl) ⟨by decide, by decide⟩ (by decide) (by decide) ?_
  refine j_if_eq K 28 dX6_minutesToHighWater_14 (by decide) (fun h_14 => ?_) (fun h_14 => absurd (by decide) h_14)
  refine j_aload_n K 0 dX6_minutesToHighWater_28 rfl rfl ?_
  refine j_iconst K 2 dX6_minutesToHighWater_29 rfl ?_
  refine j_cV1r K dX6_minutesToHighWater_30 m_X6_fail v_X6_fail k_X6_98 rfl ⟨by decide, rfl⟩ rfl (c_MF _) (Nat.le_of_ble_eq_true rfl) ⟨by decide, by decide⟩ (by decide) (by decide) ?_
  refine j_iret K dX6_minutesToHighWater_33 ?_
  exact ⟨rfl, rfl⟩
set_option maxRecDepth 20000 in
set_option maxHeartbeats 400000 in
theorem c_M_minutesToHighWaterx3 {l : Launch} {D : va_G} {ca : Nat → ClassId} {q0 : Nat} {sa : Nat → Nat} {ad : jAd} {z n a : Nat} {V : jV} (x d y : Int32) (hI : n ≤ 6 ∧ V 20 0 1 = nI n) (ha : a < n) (hx : x = nI a) (hd : 0 ≤ d ∧ d ≤ 99999) (h : ¬ (0 ≤ y ∧ y ≤ 1439))  : jMet l D ca q0 sa ad yX6_minutesToHighWater cX6_minutesToHighWater 5 (some .int) 3 0 0 [.ref (ad 20 0), .int x, .int d, .int y] (jS z n V) (jRet (some (.int 0)) (jS z n (thr (thr V 0) 2))) := by
  refine j_enter RX6 [some (.ref (ad 20 0)), some (.int x), some (.int d), some (.int y), none] rfl (by decide) (by simp [Value.category]) (Nat.le_of_ble_eq_true rfl) rfl ?_
  intro p e s m args below meth c K hnm hX
  have hn6 := hI.1
  have hp := hI.2
  refine j_aload_n K 0 dX6_minutesToHighWater_0 rfl rfl ?_
  refine j_iload_n K 1 dX6_minutesToHighWater_1 rfl rfl ?_
  refine j_cV1r K dX6_minutesToHighWater_2 m_X6_isPier v_X6_isPier k_X6_125 rfl ⟨by decide, rfl⟩ rfl (c_MP _ hI ⟨a, ha, hx⟩) (Nat.le_of_ble_eq_true rfl) ⟨by decide, by decide⟩ (by decide) (by decide) ?_
  refine j_if_ne K 10 dX6_minutesToHighWater_5 (by decide) (fun h_5 => ?_) (fun h_5 => absurd h_5 (by decide))
  refine j_iload_n K 2 dX6_minutesToHighWater_10 rfl rfl ?_
  refine j_cS1r K dX6_minutesToHighWater_11 m_X6_isDay s_X6_isDay k_X6_121 (c_MD _ hd) (Nat.le_of_ble_eq_true rfl) ⟨by decide, by decide⟩ (by decide) (by decide) ?_
  refine j_if_eq K 28 dX6_minutesToHighWater_14 (by decide) (fun h_14 => absurd h_14 (by decide)) (fun h_14 => ?_)
  refine j_iload_n K 3 dX6_minutesToHighWater_17 rfl rfl ?_
  refine j_iconst K 0 dX6_minutesToHighWater_18 rfl ?_
  refine j_sipush K 1439 dX6_minutesToHighWater_19 rfl ?_
  refine j_cS3r K dX6_minutesToHighWater_22 m_X6_isWithin s_X6_isWithin k_X6_89 (c_MW0 _ _ _ h) (Nat.le_of_ble_eq_true rfl) ⟨by decide, by decide⟩ (by decide) (by decide) ?_
  refine j_if_ne K 34 dX6_minutesToHighWater_25 (by decide) (fun h_25 => absurd (by decide) h_25) (fun h_25 => ?_)
  refine j_aload_n K 0 dX6_minutesToHighWater_28 rfl rfl ?_
  refine j_iconst K 2 dX6_minutesToHighWater_29 rfl ?_
  refine j_cV1r K dX6_minutesToHighWater_30 m_X6_fail v_X6_fail k_X6_98 rfl ⟨by decide, rfl⟩ rfl (c_MF _) (Nat.le_of_ble_eq_true rfl) ⟨by decide, by decide⟩ (by decide) (by decide) ?_
  refine j_iret K dX6_minutesToHighWater_33 ?_
  exact ⟨rfl, rfl⟩
set_option maxRecDepth 20000 in
set_option maxHeartbeats 400000 in
theorem c_M_minutesToHighWater {l : Launch} {D : va_G} {ca : Nat → ClassId} {q0 : Nat} {sa : Nat → Nat} {ad : jAd} {z n a cnt r : Nat} {V : jV} (x d y : Int32) (hI : n ≤ 6 ∧ V 20 0 1 = nI n) (ha : a < n) (hx : x = nI a) (hd : 0 ≤ d ∧ d ≤ 99999) (hR : YR V a cnt) (hy : 0 ≤ y ∧ y ≤ 1439) (hr : ∀ j, j < r → ¬ behY V a cnt (1440 * d + y + nI j) = 0) (hr0 : behY V a cnt (1440 * d + y + nI r) = 0) (hr9 : r ≤ 745)  : jMet l D ca q0 sa ad yX6_minutesToHighWater cX6_minutesToHighWater 5 (some .int) 3 0 0 [.ref (ad 20 0), .int x, .int d, .int y] (jS z n V) (jRet (some (.int (nI r))) (jS z n (thr V 0))) := by
  refine j_enter RX6 [some (.ref (ad 20 0)), some (.int x), some (.int d), some (.int y), none] rfl (by decide) (by simp [Value.category]) (Nat.le_of_ble_eq_true rfl) rfl ?_
  intro p e s m args below meth c K hnm hX
  have hn6 := hI.1
  have hp := hI.2
  have lp : ∀ (k j : Nat) , j ≤ r → r < j + k → jW p l e (jRm 3 0 0) s m args below meth c D ca q0 ad 5 (jZ below args s D ca q0 ad 0 0 (jRet (some (.int (nI r))) (jS z n (thr V 0)))) 0 0 37 [some (.ref (ad 20 0)), some (.int x), some (.int d), some (.int y), some (.int (nI j))] [] (jS z n (thr V 0)) := by
    intro k
    induction k with
    | zero => intro j  hj1 hj2; exact absurd hj2 (by omega)
    | succ k ih =>
      intro j  hj1 hj2 
      refine j_aload_n K 0 dX6_minutesToHighWater_37 rfl rfl ?_
      refine j_iload_n K 1 dX6_minutesToHighWater_38 rfl rfl ?_
      refine j_sipush K 1440 dX6_minutesToHighWater_39 rfl ?_
      refine j_iload_n K 2 dX6_minutesToHighWater_42 rfl rfl ?_
      refine j_imul K dX6_minutesToHighWater_43 ?_
      refine j_iload_n K 3 dX6_minutesToHighWater_44 rfl rfl ?_
      refine j_iadd K dX6_minutesToHighWater_45 ?_
      refine j_iload K dX6_minutesToHighWater_46 rfl ?_
      refine j_iadd K dX6_minutesToHighWater_48 ?_
      refine j_cV2r K dX6_minutesToHighWater_49 m_X6_behind v_X6_behind k_X6_137 rfl ⟨by decide, rfl⟩ rfl (c_Mbeh (V := thr V 0) _ _ hn6 ha hx hR) (Nat.le_of_ble_eq_true rfl) ⟨by decide, by decide⟩ (by decide) (by decide) ?_
      refine j_if_eq K 61 dX6_minutesToHighWater_52 (by decide) (fun h_52 => ?_) (fun h_52 => ?_)
      · have jeq : j = r := by
          rcases Nat.lt_or_eq_of_le hj1 with q | q
          · exact absurd h_52 (hr j q)
          · exact q
        subst jeq
        refine j_iload K dX6_minutesToHighWater_61 rfl ?_
        refine j_iret K dX6_minutesToHighWater_63 ?_
        exact ⟨rfl, rfl⟩
      · have jne : ¬ j = r := fun q => by rw [q] at h_52; exact h_52 hr0
        refine j_iinc (v := nI (j + 1)) K dX6_minutesToHighWater_55 rfl (by decide) (nI_1 _) ?_
        refine j_goto K 37 dX6_minutesToHighWater_58 (by decide) ?_
        exact ih (j + 1) (by have := jne; omega) (by omega)
  refine j_aload_n K 0 dX6_minutesToHighWater_0 rfl rfl ?_
  refine j_iload_n K 1 dX6_minutesToHighWater_1 rfl rfl ?_
  refine j_cV1r K dX6_minutesToHighWater_2 m_X6_isPier v_X6_isPier k_X6_125 rfl ⟨by decide, rfl⟩ rfl (c_MP _ hI ⟨a, ha, hx⟩) (Nat.le_of_ble_eq_true rfl) ⟨by decide, by decide⟩ (by decide) (by decide) ?_
  refine j_if_ne K 10 dX6_minutesToHighWater_5 (by decide) (fun h_5 => ?_) (fun h_5 => absurd h_5 (by decide))
  refine j_iload_n K 2 dX6_minutesToHighWater_10 rfl rfl ?_
  refine j_cS1r K dX6_minutesToHighWater_11 m_X6_isDay s_X6_isDay k_X6_121 (c_MD _ hd) (Nat.le_of_ble_eq_true rfl) ⟨by decide, by decide⟩ (by decide) (by decide) ?_
  refine j_if_eq K 28 dX6_minutesToHighWater_14 (by decide) (fun h_14 => absurd h_14 (by decide)) (fun h_14 => ?_)
  refine j_iload_n K 3 dX6_minutesToHighWater_17 rfl rfl ?_
  refine j_iconst K 0 dX6_minutesToHighWater_18 rfl ?_
  refine j_sipush K 1439 dX6_minutesToHighWater_19 rfl ?_
  refine j_cS3r K dX6_minutesToHighWater_22 m_X6_isWithin s_X6_isWithin k_X6_89 (c_MW _ _ _ hy) (Nat.le_of_ble_eq_true rfl) ⟨by decide, by decide⟩ (by decide) (by decide) ?_
  refine j_if_ne K 34 dX6_minutesToHighWater_25 (by decide) (fun h_25 => ?_) (fun h_25 => absurd h_25 (by decide))
  refine j_iconst K 0 dX6_minutesToHighWater_34 rfl ?_
  refine j_istore K dX6_minutesToHighWater_35 (by decide) ?_
  exact lp (r + 1) 0 (by omega) (by omega)
