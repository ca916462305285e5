theorem okF_in {x : Int32} : okP 6 x ↔ (0 ≤ x ∧ x ≤ 5) := okP_in (n := 6) (y := 6) (by decide) rfl
theorem okL_in {x : Int32} {c : Nat} {v : Int32} (hc : c ≤ 6) (hv : v = nI c) : okP c x ↔ (0 ≤ x ∧ x ≤ v - 1) := okP_in hc hv
def spY (V : jV) (a : Nat) : Nat → Bool := fun j => decide (V 48 0 (4 * a + j) = 2) || decide (V 48 0 (4 * a + j) = 3)
theorem spY_2 {V : jV} {a j : Nat} (h : V 48 0 (4 * a + j) = 2) : spY V a j = true := by unfold spY; simp [h]
theorem spY_3 {V : jV} {a j : Nat} (h : V 48 0 (4 * a + j) = 3) : spY V a j = true := by unfold spY; simp [h]
theorem spY_n {V : jV} {a j : Nat} (h : ¬ V 48 0 (4 * a + j) = 2) (h' : ¬ V 48 0 (4 * a + j) = 3) : spY V a j = false := by unfold spY; simp [h, h']
def rbY (V : jV) : Nat → jV × Int32
  | 0 => (thr V 0, 0)
  | j + 1 => (rgV (rbY V j).1 j, if rgA (rbY V j).1 j = false then (rbY V j).2 else (rbY V j).2 ||| (1 <<< (nI j &&& 31)))
set_option maxRecDepth 20000 in
set_option maxHeartbeats 400000 in
theorem c_M_trustOfx {l : Launch} {D : va_G} {ca : Nat → ClassId} {q0 : Nat} {sa : Nat → Nat} {ad : jAd} {z n : Nat} {V : jV} (x : Int32) (h : ¬ okP 6 x)  : jMet l D ca q0 sa ad yX6_trustOf cX6_trustOf 2 (some .int) 2 0 0 [.ref (ad 20 0), .int x] (jS z n V) (jRet (some (.int 0)) (jS z n (thr V 1))) := by
  refine j_enter RX6 [some (.ref (ad 20 0)), some (.int x)] rfl (by decide) (by simp [Value.category]) (Nat.le_of_ble_eq_true rfl) rfl ?_
  intro p e s m args below meth c K hnm hX
  refine j_aload_n K 0 dX6_trustOf_0 rfl rfl ?_
  refine j_iload_n K 1 dX6_trustOf_1 rfl rfl ?_
  refine j_iconst K 0 dX6_trustOf_2 rfl ?_
  refine j_iconst K 5 dX6_trustOf_3 rfl ?_
  refine j_cS3r K dX6_trustOf_4 m_X6_isWithin s_X6_isWithin k_X6_89 (c_MW0 _ _ _ (fun q => h (okF_in.mpr q))) (Nat.le_of_ble_eq_true rfl) ⟨by decide, by decide⟩ (by decide) (by decide) ?_
  refine j_iconst K 1 dX6_trustOf_7 rfl ?_
  refine j_cV2r K dX6_trustOf_8 m_X6_isGood v_X6_isGood k_X6_93 rfl ⟨by decide, rfl⟩ rfl (c_MG0 _) (Nat.le_of_ble_eq_true rfl) ⟨by decide, by decide⟩ (by decide) (by decide) ?_
  refine j_if_eq K 23 dX6_trustOf_11 (by decide) (fun h_11 => ?_) (fun h_11 => absurd (by decide) h_11)
  refine j_iconst K 0 dX6_trustOf_23 rfl ?_
  refine j_iret K dX6_trustOf_24 ?_
  exact ⟨rfl, rfl⟩
set_option maxRecDepth 20000 in
set_option maxHeartbeats 400000 in
theorem c_M_trustOf {l : Launch} {D : va_G} {ca : Nat → ClassId} {q0 : Nat} {sa : Nat → Nat} {ad : jAd} {z n f : Nat} {V : jV} (x : Int32) (hf6 : f < 6) (hx : x = nI f)  : jMet l D ca q0 sa ad yX6_trustOf cX6_trustOf 2 (some .int) 2 0 0 [.ref (ad 20 0), .int x] (jS z n V) (jRet (some (.int (V 29 0 f))) (jS z n (thr V 0))) := by
  refine j_enter RX6 [some (.ref (ad 20 0)), some (.int x)] rfl (by decide) (by simp [Value.category]) (Nat.le_of_ble_eq_true rfl) rfl ?_
  intro p e s m args below meth c K hnm hX
  refine j_aload_n K 0 dX6_trustOf_0 rfl rfl ?_
  refine j_iload_n K 1 dX6_trustOf_1 rfl rfl ?_
  refine j_iconst K 0 dX6_trustOf_2 rfl ?_
  refine j_iconst K 5 dX6_trustOf_3 rfl ?_
  refine j_cS3r K dX6_trustOf_4 m_X6_isWithin s_X6_isWithin k_X6_89 (c_MW _ _ _ (okF_in.mp ⟨f, hf6, hx⟩)) (Nat.le_of_ble_eq_true rfl) ⟨by decide, by decide⟩ (by decide) (by decide) ?_
  refine j_iconst K 1 dX6_trustOf_7 rfl ?_
  refine j_cV2r K dX6_trustOf_8 m_X6_isGood v_X6_isGood k_X6_93 rfl ⟨by decide, rfl⟩ rfl (c_MG _) (Nat.le_of_ble_eq_true rfl) ⟨by decide, by decide⟩ (by decide) (by decide) ?_
  refine j_if_eq K 23 dX6_trustOf_11 (by decide) (fun h_11 => absurd h_11 (by decide)) (fun h_11 => ?_)
  refine j_aload_n K 0 dX6_trustOf_14 rfl rfl ?_
  refine jGr K 29 0 dX6_trustOf_15 f_X6_25 rfl rfl rfl rfl ?_
  refine j_iload_n K 1 dX6_trustOf_18 rfl rfl ?_
  refine jIald K (f) dX6_trustOf_19 rfl rfl hx (by omega) ?_
  refine j_goto K 24 dX6_trustOf_20 (by decide) ?_
  refine j_iret K dX6_trustOf_24 ?_
  exact ⟨rfl, rfl⟩
set_option maxRecDepth 20000 in
set_option maxHeartbeats 400000 in
theorem c_Mpair {l : Launch} {D : va_G} {ca : Nat → ClassId} {q0 : Nat} {sa : Nat → Nat} {ad : jAd} {z n : Nat} {V : jV} (x y : Int32) (hI : n ≤ 6 ∧ V 20 0 1 = nI n) (hf : okP 6 x) (hy : okP n y)  : jMet l D ca q0 sa ad yX6_isPair cX6_isPair 3 (some .boolean) 1 0 0 [.ref (ad 20 0), .int x, .int y] (jS z n V) (jRet (some (.int 1)) (jS z n (thr V 0))) := by
  refine j_enter RX6 [some (.ref (ad 20 0)), some (.int x), some (.int y)] rfl (by decide) (by simp [Value.category]) (Nat.le_of_ble_eq_true rfl) rfl ?_
  intro p e s m args below meth c K hnm hX
  have hn6 := hI.1
  have hp := hI.2
  refine j_aload_n K 0 dX6_isPair_0 rfl rfl ?_
  refine j_iload_n K 1 dX6_isPair_1 rfl rfl ?_
  refine j_iconst K 0 dX6_isPair_2 rfl ?_
  refine j_iconst K 5 dX6_isPair_3 rfl ?_
  refine j_cS3r K dX6_isPair_4 m_X6_isWithin s_X6_isWithin k_X6_89 (c_MW _ _ _ (okF_in.mp hf)) (Nat.le_of_ble_eq_true rfl) ⟨by decide, by decide⟩ (by decide) (by decide) ?_
  refine j_if_eq K 28 dX6_isPair_7 (by decide) (fun h_7 => absurd h_7 (by decide)) (fun h_7 => ?_)
  refine j_iload_n K 2 dX6_isPair_10 rfl rfl ?_
  refine j_iconst K 0 dX6_isPair_11 rfl ?_
  refine j_aload_n K 0 dX6_isPair_12 rfl rfl ?_
  refine jGi K dX6_isPair_13 f_X6_86 rfl rfl rfl ?_
  refine j_iconst K 1 dX6_isPair_16 rfl ?_
  refine j_isub K dX6_isPair_17 ?_
  refine j_cS3r K dX6_isPair_18 m_X6_isWithin s_X6_isWithin k_X6_89 (c_MW _ _ _ (okP_in hI.1 hI.2 |>.mp hy)) (Nat.le_of_ble_eq_true rfl) ⟨by decide, by decide⟩ (by decide) (by decide) ?_
  refine j_if_eq K 28 dX6_isPair_21 (by decide) (fun h_21 => absurd h_21 (by decide)) (fun h_21 => ?_)
  refine j_iconst K 1 dX6_isPair_24 rfl ?_
  refine j_goto K 29 dX6_isPair_25 (by decide) ?_
  refine j_iconst K 1 dX6_isPair_29 rfl ?_
  refine j_cV2r K dX6_isPair_30 m_X6_isGood v_X6_isGood k_X6_93 rfl ⟨by decide, rfl⟩ rfl (c_MG _) (Nat.le_of_ble_eq_true rfl) ⟨by decide, by decide⟩ (by decide) (by decide) ?_
  refine j_zret K dX6_isPair_33 (by simp) ?_
  exact ⟨rfl, rfl⟩
set_option maxRecDepth 20000 in
set_option maxHeartbeats 400000 in
theorem c_Mpair0 {l : Launch} {D : va_G} {ca : Nat → ClassId} {q0 : Nat} {sa : Nat → Nat} {ad : jAd} {z n : Nat} {V : jV} (x y : Int32) (hI : n ≤ 6 ∧ V 20 0 1 = nI n) (h : ¬ okP 6 x)  : jMet l D ca q0 sa ad yX6_isPair cX6_isPair 3 (some .boolean) 1 0 0 [.ref (ad 20 0), .int x, .int y] (jS z n V) (jRet (some (.int 0)) (jS z n (thr V 1))) := by
  refine j_enter RX6 [some (.ref (ad 20 0)), some (.int x), some (.int y)] rfl (by decide) (by simp [Value.category]) (Nat.le_of_ble_eq_true rfl) rfl ?_
  intro p e s m args below meth c K hnm hX
  have hn6 := hI.1
  have hp := hI.2
  refine j_aload_n K 0 dX6_isPair_0 rfl rfl ?_
  refine j_iload_n K 1 dX6_isPair_1 rfl rfl ?_
  refine j_iconst K 0 dX6_isPair_2 rfl ?_
  refine j_iconst K 5 dX6_isPair_3 rfl ?_
  refine j_cS3r K dX6_isPair_4 m_X6_isWithin s_X6_isWithin k_X6_89 (c_MW0 _ _ _ (fun q => h (okF_in.mpr q))) (Nat.le_of_ble_eq_true rfl) ⟨by decide, by decide⟩ (by decide) (by decide) ?_
  refine j_if_eq K 28 dX6_isPair_7 (by decide) (fun h_7 => ?_) (fun h_7 => absurd (by decide) h_7)
  refine j_iconst K 0 dX6_isPair_28 rfl ?_
  refine j_iconst K 1 dX6_isPair_29 rfl ?_
  refine j_cV2r K dX6_isPair_30 m_X6_isGood v_X6_isGood k_X6_93 rfl ⟨by decide, rfl⟩ rfl (c_MG0 _) (Nat.le_of_ble_eq_true rfl) ⟨by decide, by decide⟩ (by decide) (by decide) ?_
  refine j_zret K dX6_isPair_33 (by simp) ?_
  exact ⟨rfl, rfl⟩
set_option maxRecDepth 20000 in
set_option maxHeartbeats 400000 in
theorem c_Mpair1 {l : Launch} {D : va_G} {ca : Nat → ClassId} {q0 : Nat} {sa : Nat → Nat} {ad : jAd} {z n : Nat} {V : jV} (x y : Int32) (hI : n ≤ 6 ∧ V 20 0 1 = nI n) (hf : okP 6 x) (hy : ¬ okP n y)  : jMet l D ca q0 sa ad yX6_isPair cX6_isPair 3 (some .boolean) 1 0 0 [.ref (ad 20 0), .int x, .int y] (jS z n V) (jRet (some (.int 0)) (jS z n (thr V 1))) := by
  refine j_enter RX6 [some (.ref (ad 20 0)), some (.int x), some (.int y)] rfl (by decide) (by simp [Value.category]) (Nat.le_of_ble_eq_true rfl) rfl ?_
  intro p e s m args below meth c K hnm hX
  have hn6 := hI.1
  have hp := hI.2
  refine j_aload_n K 0 dX6_isPair_0 rfl rfl ?_
  refine j_iload_n K 1 dX6_isPair_1 rfl rfl ?_
  refine j_iconst K 0 dX6_isPair_2 rfl ?_
  refine j_iconst K 5 dX6_isPair_3 rfl ?_
  refine j_cS3r K dX6_isPair_4 m_X6_isWithin s_X6_isWithin k_X6_89 (c_MW _ _ _ (okF_in.mp hf)) (Nat.le_of_ble_eq_true rfl) ⟨by decide, by decide⟩ (by decide) (by decide) ?_
  refine j_if_eq K 28 dX6_isPair_7 (by decide) (fun h_7 => absurd h_7 (by decide)) (fun h_7 => ?_)
  refine j_iload_n K 2 dX6_isPair_10 rfl rfl ?_
  refine j_iconst K 0 dX6_isPair_11 rfl ?_
  refine j_aload_n K 0 dX6_isPair_12 rfl rfl ?_
  refine jGi K dX6_isPair_13 f_X6_86 rfl rfl rfl ?_
  refine j_iconst K 1 dX6_isPair_16 rfl ?_
  refine j_isub K dX6_isPair_17 ?_
  refine j_cS3r K dX6_isPair_18 m_X6_isWithin s_X6_isWithin k_X6_89 (c_MW0 _ _ _ (fun q => hy ((okP_in hI.1 hI.2).mpr q))) (Nat.le_of_ble_eq_true rfl) ⟨by decide, by decide⟩ (by decide) (by decide) ?_
  refine j_if_eq K 28 dX6_isPair_21 (by decide) (fun h_21 => ?_) (fun h_21 => absurd (by decide) h_21)
  refine j_iconst K 0 dX6_isPair_28 rfl ?_
  refine j_iconst K 1 dX6_isPair_29 rfl ?_
  refine j_cV2r K dX6_isPair_30 m_X6_isGood v_X6_isGood k_X6_93 rfl ⟨by decide, rfl⟩ rfl (c_MG0 _) (Nat.le_of_ble_eq_true rfl) ⟨by decide, by decide⟩ (by decide) (by decide) ?_
  refine j_zret K dX6_isPair_33 (by simp) ?_
  exact ⟨rfl, rfl⟩
set_option maxRecDepth 20000 in
set_option maxHeartbeats 400000 in
theorem c_Mline {l : Launch} {D : va_G} {ca : Nat → ClassId} {q0 : Nat} {sa : Nat → Nat} {ad : jAd} {z n a c4 : Nat} {V : jV} (x y : Int32) (hI : n ≤ 6 ∧ V 20 0 1 = nI n) (ha : a < n) (hx : x = nI a) (hl4 : V 43 0 a = nI c4) (hc4 : c4 ≤ 4) (hy : okP c4 y)  : jMet l D ca q0 sa ad yX6_isLine cX6_isLine 3 (some .boolean) 2 0 0 [.ref (ad 20 0), .int x, .int y] (jS z n V) (jRet (some (.int 1)) (jS z n (thr (thr V 0) 0))) := by
  refine j_enter RX6 [some (.ref (ad 20 0)), some (.int x), some (.int y)] rfl (by decide) (by simp [Value.category]) (Nat.le_of_ble_eq_true rfl) rfl ?_
  intro p e s m args below meth c K hnm hX
  have hn6 := hI.1
  have hp := hI.2
  refine j_aload_n K 0 dX6_isLine_0 rfl rfl ?_
  refine j_iload_n K 1 dX6_isLine_1 rfl rfl ?_
  refine j_cV1r K dX6_isLine_2 m_X6_isPier v_X6_isPier k_X6_125 rfl ⟨by decide, rfl⟩ rfl (c_MP _ hI ⟨a, ha, hx⟩) (Nat.le_of_ble_eq_true rfl) ⟨by decide, by decide⟩ (by decide) (by decide) ?_
  refine j_if_eq K 33 dX6_isLine_5 (by decide) (fun h_5 => absurd h_5 (by decide)) (fun h_5 => ?_)
  refine j_aload_n K 0 dX6_isLine_8 rfl rfl ?_
  refine j_iload_n K 2 dX6_isLine_9 rfl rfl ?_
  refine j_iconst K 0 dX6_isLine_10 rfl ?_
  refine j_aload_n K 0 dX6_isLine_11 rfl rfl ?_
  refine jGr K 43 0 dX6_isLine_12 f_X6_56 rfl rfl rfl rfl ?_
  refine j_iload_n K 1 dX6_isLine_15 rfl rfl ?_
  refine jIald K (a) dX6_isLine_16 rfl rfl hx (by omega) ?_
  refine j_iconst K 1 dX6_isLine_17 rfl ?_
  refine j_isub K dX6_isLine_18 ?_
  refine j_cS3r K dX6_isLine_19 m_X6_isWithin s_X6_isWithin k_X6_89 (c_MW _ _ _ ((okP_in (n := c4) (by omega) hl4).mp hy)) (Nat.le_of_ble_eq_true rfl) ⟨by decide, by decide⟩ (by decide) (by decide) ?_
  refine j_iconst K 1 dX6_isLine_22 rfl ?_
  refine j_cV2r K dX6_isLine_23 m_X6_isGood v_X6_isGood k_X6_93 rfl ⟨by decide, rfl⟩ rfl (c_MG (V := thr V 0) _) (Nat.le_of_ble_eq_true rfl) ⟨by decide, by decide⟩ (by decide) (by decide) ?_
  refine j_if_eq K 33 dX6_isLine_26 (by decide) (fun h_26 => absurd h_26 (by decide)) (fun h_26 => ?_)
  refine j_iconst K 1 dX6_isLine_29 rfl ?_
  refine j_goto K 34 dX6_isLine_30 (by decide) ?_
  refine j_zret K dX6_isLine_34 (by simp) ?_
  exact ⟨rfl, rfl⟩
set_option maxRecDepth 20000 in
set_option maxHeartbeats 400000 in
theorem c_Mline0 {l : Launch} {D : va_G} {ca : Nat → ClassId} {q0 : Nat} {sa : Nat → Nat} {ad : jAd} {z n : Nat} {V : jV} (x y : Int32) (hI : n ≤ 6 ∧ V 20 0 1 = nI n) (h : ¬ okP n x)  : jMet l D ca q0 sa ad yX6_isLine cX6_isLine 3 (some .boolean) 2 0 0 [.ref (ad 20 0), .int x, .int y] (jS z n V) (jRet (some (.int 0)) (jS z n (thr V 1))) := by
  refine j_enter RX6 [some (.ref (ad 20 0)), some (.int x), some (.int y)] rfl (by decide) (by simp [Value.category]) (Nat.le_of_ble_eq_true rfl) rfl ?_
  intro p e s m args below meth c K hnm hX
  have hn6 := hI.1
  have hp := hI.2
  refine j_aload_n K 0 dX6_isLine_0 rfl rfl ?_
  refine j_iload_n K 1 dX6_isLine_1 rfl rfl ?_
  refine j_cV1r K dX6_isLine_2 m_X6_isPier v_X6_isPier k_X6_125 rfl ⟨by decide, rfl⟩ rfl (c_MP0 _ hI h) (Nat.le_of_ble_eq_true rfl) ⟨by decide, by decide⟩ (by decide) (by decide) ?_
  refine j_if_eq K 33 dX6_isLine_5 (by decide) (fun h_5 => ?_) (fun h_5 => absurd (by decide) h_5)
  refine j_iconst K 0 dX6_isLine_33 rfl ?_
  refine j_zret K dX6_isLine_34 (by simp) ?_
  exact ⟨rfl, rfl⟩
set_option maxRecDepth 20000 in
set_option maxHeartbeats 400000 in
theorem c_Mline1 {l : Launch} {D : va_G} {ca : Nat → ClassId} {q0 : Nat} {sa : Nat → Nat} {ad : jAd} {z n a c4 : Nat} {V : jV} (x y : Int32) (hI : n ≤ 6 ∧ V 20 0 1 = nI n) (ha : a < n) (hx : x = nI a) (hl4 : V 43 0 a = nI c4) (hc4 : c4 ≤ 4) (hy : ¬ okP c4 y)  : jMet l D ca q0 sa ad yX6_isLine cX6_isLine 3 (some .boolean) 2 0 0 [.ref (ad 20 0), .int x, .int y] (jS z n V) (jRet (some (.int 0)) (jS z n (thr (thr V 0) 1))) := by
  refine j_enter RX6 [some (.ref (ad 20 0)), some (.int x), some (.int y)] rfl (by decide) (by simp [Value.category]) (Nat.le_of_ble_eq_true rfl) rfl ?_
  intro p e s m args below meth c K hnm hX
  have hn6 := hI.1
  have hp := hI.2
  refine j_aload_n K 0 dX6_isLine_0 rfl rfl ?_
  refine j_iload_n K 1 dX6_isLine_1 rfl rfl ?_
  refine j_cV1r K dX6_isLine_2 m_X6_isPier v_X6_isPier k_X6_125 rfl ⟨by decide, rfl⟩ rfl (c_MP _ hI ⟨a, ha, hx⟩) (Nat.le_of_ble_eq_true rfl) ⟨by decide, by decide⟩ (by decide) (by decide) ?_
  refine j_if_eq K 33 dX6_isLine_5 (by decide) (fun h_5 => absurd h_5 (by decide)) (fun h_5 => ?_)
  refine j_aload_n K 0 dX6_isLine_8 rfl rfl ?_
  refine j_iload_n K 2 dX6_isLine_9 rfl rfl ?_
  refine j_iconst K 0 dX6_isLine_10 rfl ?_
  refine j_aload_n K 0 dX6_isLine_11 rfl rfl ?_
  refine jGr K 43 0 dX6_isLine_12 f_X6_56 rfl rfl rfl rfl ?_
  refine j_iload_n K 1 dX6_isLine_15 rfl rfl ?_
  refine jIald K (a) dX6_isLine_16 rfl rfl hx (by omega) ?_
  refine j_iconst K 1 dX6_isLine_17 rfl ?_
  refine j_isub K dX6_isLine_18 ?_
  refine j_cS3r K dX6_isLine_19 m_X6_isWithin s_X6_isWithin k_X6_89 (c_MW0 _ _ _ (fun q => hy ((okP_in (n := c4) (by omega) hl4).mpr q))) (Nat.le_of_ble_eq_true rfl) ⟨by decide, by decide⟩ (by decide) (by decide) ?_
  refine j_iconst K 1 dX6_isLine_22 rfl ?_
  refine j_cV2r K dX6_isLine_23 m_X6_isGood v_X6_isGood k_X6_93 rfl ⟨by decide, rfl⟩ rfl (c_MG0 (V := thr V 0) _) (Nat.le_of_ble_eq_true rfl) ⟨by decide, by decide⟩ (by decide) (by decide) ?_
  refine j_if_eq K 33 dX6_isLine_26 (by decide) (fun h_26 => ?_) (fun h_26 => absurd (by decide) h_26)
  refine j_iconst K 0 dX6_isLine_33 rfl ?_
  refine j_zret K dX6_isLine_34 (by simp) ?_
  exact ⟨rfl, rfl⟩
set_option maxRecDepth 20000 in
set_option maxHeartbeats 400000 in
theorem c_M_lineStatex1 {l : Launch} {D : va_G} {ca : Nat → ClassId} {q0 : Nat} {sa : Nat → Nat} {ad : jAd} {z n : Nat} {V : jV} (x y : Int32) (hI : n ≤ 6 ∧ V 20 0 1 = nI n) (h : ¬ okP n x)  : jMet l D ca q0 sa ad yX6_lineState cX6_lineState 3 (some .int) 3 0 0 [.ref (ad 20 0), .int x, .int y] (jS z n V) (jRet (some (.int 0)) (jS z n (thr V 1))) := by
  refine j_enter RX6 [some (.ref (ad 20 0)), some (.int x), some (.int y)] rfl (by decide) (by simp [Value.category]) (Nat.le_of_ble_eq_true rfl) rfl ?_
  intro p e s m args below meth c K hnm hX
  have hn6 := hI.1
  have hp := hI.2
  refine j_aload_n K 0 dX6_lineState_0 rfl rfl ?_
  refine j_iload_n K 1 dX6_lineState_1 rfl rfl ?_
  refine j_iload_n K 2 dX6_lineState_2 rfl rfl ?_
  refine j_cV2r K dX6_lineState_3 m_X6_isLine v_X6_isLine k_X6_211 rfl ⟨by decide, rfl⟩ rfl (c_Mline0 _ _ hI h) (Nat.le_of_ble_eq_true rfl) ⟨by decide, by decide⟩ (by decide) (by decide) ?_
  refine j_if_eq K 22 dX6_lineState_6 (by decide) (fun h_6 => ?_) (fun h_6 => absurd (by decide) h_6)
  refine j_iconst K 0 dX6_lineState_22 rfl ?_
  refine j_iret K dX6_lineState_23 ?_
  exact ⟨rfl, rfl⟩
set_option maxRecDepth 20000 in
set_option maxHeartbeats 400000 in
theorem c_M_lineStatex2 {l : Launch} {D : va_G} {ca : Nat → ClassId} {q0 : Nat} {sa : Nat → Nat} {ad : jAd} {z n a c4 : Nat} {V : jV} (x y : Int32) (hI : n ≤ 6 ∧ V 20 0 1 = nI n) (ha : a < n) (hx : x = nI a) (hl4 : V 43 0 a = nI c4) (hc4 : c4 ≤ 4) (hy : ¬ okP c4 y)  : jMet l D ca q0 sa ad yX6_lineState cX6_lineState 3 (some .int) 3 0 0 [.ref (ad 20 0), .int x, .int y] (jS z n V) (jRet (some (.int 0)) (jS z n (thr (thr V 0) 1))) := by
  refine j_enter RX6 [some (.ref (ad 20 0)), some (.int x), some (.int y)] rfl (by decide) (by simp [Value.category]) (Nat.le_of_ble_eq_true rfl) rfl ?_
  intro p e s m args below meth c K hnm hX
  have hn6 := hI.1
  have hp := hI.2
  refine j_aload_n K 0 dX6_lineState_0 rfl rfl ?_
  refine j_iload_n K 1 dX6_lineState_1 rfl rfl ?_
  refine j_iload_n K 2 dX6_lineState_2 rfl rfl ?_
  refine j_cV2r K dX6_lineState_3 m_X6_isLine v_X6_isLine k_X6_211 rfl ⟨by decide, rfl⟩ rfl (c_Mline1 _ _ hI ha hx hl4 hc4 hy) (Nat.le_of_ble_eq_true rfl) ⟨by decide, by decide⟩ (by decide) (by decide) ?_
  refine j_if_eq K 22 dX6_lineState_6 (by decide) (fun h_6 => ?_) (fun h_6 => absurd (by decide) h_6)
  refine j_iconst K 0 dX6_lineState_22 rfl ?_
  refine j_iret K dX6_lineState_23 ?_
  exact ⟨rfl, rfl⟩
set_option maxRecDepth 20000 in
set_option maxHeartbeats 400000 in
theorem c_M_lineState {l : Launch} {D : va_G} {ca : Nat → ClassId} {q0 : Nat} {sa : Nat → Nat} {ad : jAd} {z n a c4 j : Nat} {V : jV} (x y : Int32) (hI : n ≤ 6 ∧ V 20 0 1 = nI n) (ha : a < n) (hx : x = nI a) (hl4 : V 43 0 a = nI c4) (hc4 : c4 ≤ 4) (hj : j < c4) (hy : y = nI j)  : jMet l D ca q0 sa ad yX6_lineState cX6_lineState 3 (some .int) 3 0 0 [.ref (ad 20 0), .int x, .int y] (jS z n V) (jRet (some (.int (V 48 0 (4 * a + j)))) (jS z n (thr (thr V 0) 0))) := by
  refine j_enter RX6 [some (.ref (ad 20 0)), some (.int x), some (.int y)] rfl (by decide) (by simp [Value.category]) (Nat.le_of_ble_eq_true rfl) rfl ?_
  intro p e s m args below meth c K hnm hX
  have hn6 := hI.1
  have hp := hI.2
  refine j_aload_n K 0 dX6_lineState_0 rfl rfl ?_
  refine j_iload_n K 1 dX6_lineState_1 rfl rfl ?_
  refine j_iload_n K 2 dX6_lineState_2 rfl rfl ?_
  refine j_cV2r K dX6_lineState_3 m_X6_isLine v_X6_isLine k_X6_211 rfl ⟨by decide, rfl⟩ rfl (c_Mline _ _ hI ha hx hl4 hc4 ⟨j, hj, hy⟩) (Nat.le_of_ble_eq_true rfl) ⟨by decide, by decide⟩ (by decide) (by decide) ?_
  refine j_if_eq K 22 dX6_lineState_6 (by decide) (fun h_6 => absurd h_6 (by decide)) (fun h_6 => ?_)
  refine j_aload_n K 0 dX6_lineState_9 rfl rfl ?_
  refine jGr K 48 0 dX6_lineState_10 f_X6_71 rfl rfl rfl rfl ?_
  refine j_iconst K 4 dX6_lineState_13 rfl ?_
  refine j_iload_n K 1 dX6_lineState_14 rfl rfl ?_
  refine j_imul K dX6_lineState_15 ?_
  refine j_iload_n K 2 dX6_lineState_16 rfl rfl ?_
  refine j_iadd K dX6_lineState_17 ?_
  refine jIald K (((4 * a) + j)) dX6_lineState_18 rfl rfl (jx_add (jx_mul rfl hx) hy) (by omega) ?_
  refine j_goto K 23 dX6_lineState_19 (by decide) ?_
  refine j_iret K dX6_lineState_23 ?_
  exact ⟨rfl, rfl⟩
set_option maxRecDepth 20000 in
set_option maxHeartbeats 400000 in
theorem c_Mof46x1 {l : Launch} {D : va_G} {ca : Nat → ClassId} {q0 : Nat} {sa : Nat → Nat} {ad : jAd} {z n : Nat} {V : jV} (x y : Int32) (hI : n ≤ 6 ∧ V 20 0 1 = nI n) (h : ¬ okP n x)  : jMet l D ca q0 sa ad yX6_ofLine cX6_ofLine 4 (some .int) 3 0 0 [.ref (ad 20 0), .ref (ad 46 0), .int x, .int y] (jS z n V) (jRet (some (.int 0)) (jS z n (thr V 1))) := by
  refine j_enter RX6 [some (.ref (ad 20 0)), some (.ref (ad 46 0)), some (.int x), some (.int y)] rfl (by decide) (by simp [Value.category]) (Nat.le_of_ble_eq_true rfl) rfl ?_
  intro p e s m args below meth c K hnm hX
  have hn6 := hI.1
  have hp := hI.2
  refine j_aload_n K 0 dX6_ofLine_0 rfl rfl ?_
  refine j_iload_n K 2 dX6_ofLine_1 rfl rfl ?_
  refine j_iload_n K 3 dX6_ofLine_2 rfl rfl ?_
  refine j_cV2r K dX6_ofLine_3 m_X6_isLine v_X6_isLine k_X6_211 rfl ⟨by decide, rfl⟩ rfl (c_Mline0 _ _ hI h) (Nat.le_of_ble_eq_true rfl) ⟨by decide, by decide⟩ (by decide) (by decide) ?_
  refine j_if_ne K 11 dX6_ofLine_6 (by decide) (fun h_6 => absurd (by decide) h_6) (fun h_6 => ?_)
  refine j_iconst K 0 dX6_ofLine_9 rfl ?_
  refine j_iret K dX6_ofLine_10 ?_
  exact ⟨rfl, rfl⟩
set_option maxRecDepth 20000 in
set_option maxHeartbeats 400000 in
theorem c_M_lineMinutex1 {l : Launch} {D : va_G} {ca : Nat → ClassId} {q0 : Nat} {sa : Nat → Nat} {ad : jAd} {z n : Nat} {V : jV} (x y : Int32) (hI : n ≤ 6 ∧ V 20 0 1 = nI n) (h : ¬ okP n x)  : jMet l D ca q0 sa ad yX6_lineMinute cX6_lineMinute 3 (some .int) 4 0 0 [.ref (ad 20 0), .int x, .int y] (jS z n V) (jRet (some (.int 0)) (jS z n (thr V 1))) := by
  refine j_enter RX6 [some (.ref (ad 20 0)), some (.int x), some (.int y)] rfl (by decide) (by simp [Value.category]) (Nat.le_of_ble_eq_true rfl) rfl ?_
  intro p e s m args below meth c K hnm hX
  refine j_aload_n K 0 dX6_lineMinute_0 rfl rfl ?_
  refine j_aload_n K 0 dX6_lineMinute_1 rfl rfl ?_
  refine jGr K 46 0 dX6_lineMinute_2 f_X6_65 rfl rfl rfl rfl ?_
  refine j_iload_n K 1 dX6_lineMinute_5 rfl rfl ?_
  refine j_iload_n K 2 dX6_lineMinute_6 rfl rfl ?_
  refine j_cV3r K dX6_lineMinute_7 m_X6_ofLine v_X6_ofLine k_X6_214 rfl ⟨by decide, rfl⟩ rfl (c_Mof46x1 _ _ hI h) (Nat.le_of_ble_eq_true rfl) ⟨by decide, by decide⟩ (by decide) (by decide) ?_
  refine j_iret K dX6_lineMinute_10 ?_
  exact ⟨rfl, rfl⟩
set_option maxRecDepth 20000 in
set_option maxHeartbeats 400000 in
theorem c_Mof46x2 {l : Launch} {D : va_G} {ca : Nat → ClassId} {q0 : Nat} {sa : Nat → Nat} {ad : jAd} {z n a c4 : Nat} {V : jV} (x y : Int32) (hI : n ≤ 6 ∧ V 20 0 1 = nI n) (ha : a < n) (hx : x = nI a) (hl4 : V 43 0 a = nI c4) (hc4 : c4 ≤ 4) (hy : ¬ okP c4 y)  : jMet l D ca q0 sa ad yX6_ofLine cX6_ofLine 4 (some .int) 3 0 0 [.ref (ad 20 0), .ref (ad 46 0), .int x, .int y] (jS z n V) (jRet (some (.int 0)) (jS z n (thr (thr V 0) 1))) := by
  refine j_enter RX6 [some (.ref (ad 20 0)), some (.ref (ad 46 0)), some (.int x), some (.int y)] rfl (by decide) (by simp [Value.category]) (Nat.le_of_ble_eq_true rfl) rfl ?_
  intro p e s m args below meth c K hnm hX
  have hn6 := hI.1
  have hp := hI.2
  refine j_aload_n K 0 dX6_ofLine_0 rfl rfl ?_
  refine j_iload_n K 2 dX6_ofLine_1 rfl rfl ?_
  refine j_iload_n K 3 dX6_ofLine_2 rfl rfl ?_
  refine j_cV2r K dX6_ofLine_3 m_X6_isLine v_X6_isLine k_X6_211 rfl ⟨by decide, rfl⟩ rfl (c_Mline1 _ _ hI ha hx hl4 hc4 hy) (Nat.le_of_ble_eq_true rfl) ⟨by decide, by decide⟩ (by decide) (by decide) ?_
  refine j_if_ne K 11 dX6_ofLine_6 (by decide) (fun h_6 => absurd (by decide) h_6) (fun h_6 => ?_)
  refine j_iconst K 0 dX6_ofLine_9 rfl ?_
  refine j_iret K dX6_ofLine_10 ?_
  exact ⟨rfl, rfl⟩
set_option maxRecDepth 20000 in
set_option maxHeartbeats 400000 in
theorem c_M_lineMinutex2 {l : Launch} {D : va_G} {ca : Nat → ClassId} {q0 : Nat} {sa : Nat → Nat} {ad : jAd} {z n a c4 : Nat} {V : jV} (x y : Int32) (hI : n ≤ 6 ∧ V 20 0 1 = nI n) (ha : a < n) (hx : x = nI a) (hl4 : V 43 0 a = nI c4) (hc4 : c4 ≤ 4) (hy : ¬ okP c4 y)  : jMet l D ca q0 sa ad yX6_lineMinute cX6_lineMinute 3 (some .int) 4 0 0 [.ref (ad 20 0), .int x, .int y] (jS z n V) (jRet (some (.int 0)) (jS z n (thr (thr V 0) 1))) := by
  refine j_enter RX6 [some (.ref (ad 20 0)), some (.int x), some (.int y)] rfl (by decide) (by simp [Value.category]) (Nat.le_of_ble_eq_true rfl) rfl ?_
  intro p e s m args below meth c K hnm hX
  refine j_aload_n K 0 dX6_lineMinute_0 rfl rfl ?_
  refine j_aload_n K 0 dX6_lineMinute_1 rfl rfl ?_
  refine jGr K 46 0 dX6_lineMinute_2 f_X6_65 rfl rfl rfl rfl ?_
  refine j_iload_n K 1 dX6_lineMinute_5 rfl rfl ?_
  refine j_iload_n K 2 dX6_lineMinute_6 rfl rfl ?_
  refine j_cV3r K dX6_lineMinute_7 m_X6_ofLine v_X6_ofLine k_X6_214 rfl ⟨by decide, rfl⟩ rfl (c_Mof46x2 _ _ hI ha hx hl4 hc4 hy) (Nat.le_of_ble_eq_true rfl) ⟨by decide, by decide⟩ (by decide) (by decide) ?_
  refine j_iret K dX6_lineMinute_10 ?_
  exact ⟨rfl, rfl⟩
set_option maxRecDepth 20000 in
set_option maxHeartbeats 400000 in
theorem c_Mof46x3 {l : Launch} {D : va_G} {ca : Nat → ClassId} {q0 : Nat} {sa : Nat → Nat} {ad : jAd} {z n a c4 j : Nat} {V : jV} (x y : Int32) (hI : n ≤ 6 ∧ V 20 0 1 = nI n) (ha : a < n) (hx : x = nI a) (hl4 : V 43 0 a = nI c4) (hc4 : c4 ≤ 4) (hj : j < c4) (hy : y = nI j) (h0 : V 48 0 (4 * a + j) = 0)  : jMet l D ca q0 sa ad yX6_ofLine cX6_ofLine 4 (some .int) 3 0 0 [.ref (ad 20 0), .ref (ad 46 0), .int x, .int y] (jS z n V) (jRet (some (.int 0)) (jS z n (thr (thr (thr V 0) 0) 2))) := by
  refine j_enter RX6 [some (.ref (ad 20 0)), some (.ref (ad 46 0)), some (.int x), some (.int y)] rfl (by decide) (by simp [Value.category]) (Nat.le_of_ble_eq_true rfl) rfl ?_
  intro p e s m args below meth c K hnm hX
  have hn6 := hI.1
  have hp := hI.2
  refine j_aload_n K 0 dX6_ofLine_0 rfl rfl ?_
  refine j_iload_n K 2 dX6_ofLine_1 rfl rfl ?_
  refine j_iload_n K 3 dX6_ofLine_2 rfl rfl ?_
  refine j_cV2r K dX6_ofLine_3 m_X6_isLine v_X6_isLine k_X6_211 rfl ⟨by decide, rfl⟩ rfl (c_Mline _ _ hI ha hx hl4 hc4 ⟨j, hj, hy⟩) (Nat.le_of_ble_eq_true rfl) ⟨by decide, by decide⟩ (by decide) (by decide) ?_
  refine j_if_ne K 11 dX6_ofLine_6 (by decide) (fun h_6 => ?_) (fun h_6 => absurd h_6 (by decide))
  refine j_aload_n K 0 dX6_ofLine_11 rfl rfl ?_
  refine jGr K 48 0 dX6_ofLine_12 f_X6_71 rfl rfl rfl rfl ?_
  refine j_iconst K 4 dX6_ofLine_15 rfl ?_
  refine j_iload_n K 2 dX6_ofLine_16 rfl rfl ?_
  refine j_imul K dX6_ofLine_17 ?_
  refine j_iload_n K 3 dX6_ofLine_18 rfl rfl ?_
  refine j_iadd K dX6_ofLine_19 ?_
  refine jIald K (((4 * a) + j)) dX6_ofLine_20 rfl rfl (jx_add (jx_mul rfl hx) hy) (by omega) ?_
  refine j_if_ne K 32 dX6_ofLine_21 (by decide) (fun h_21 => ?_) (fun h_21 => ?_)
  · exact absurd h0 h_21
  · refine j_aload_n K 0 dX6_ofLine_24 rfl rfl ?_
    refine j_iconst K 2 dX6_ofLine_25 rfl ?_
    refine j_cV1r K dX6_ofLine_26 m_X6_fail v_X6_fail k_X6_98 rfl ⟨by decide, rfl⟩ rfl (c_MF _) (Nat.le_of_ble_eq_true rfl) ⟨by decide, by decide⟩ (by decide) (by decide) ?_
    refine j_goto K 39 dX6_ofLine_29 (by decide) ?_
    refine j_iret K dX6_ofLine_39 ?_
    exact ⟨rfl, rfl⟩
set_option maxRecDepth 20000 in
set_option maxHeartbeats 400000 in
theorem c_M_lineMinutex3 {l : Launch} {D : va_G} {ca : Nat → ClassId} {q0 : Nat} {sa : Nat → Nat} {ad : jAd} {z n a c4 j : Nat} {V : jV} (x y : Int32) (hI : n ≤ 6 ∧ V 20 0 1 = nI n) (ha : a < n) (hx : x = nI a) (hl4 : V 43 0 a = nI c4) (hc4 : c4 ≤ 4) (hj : j < c4) (hy : y = nI j) (h0 : V 48 0 (4 * a + j) = 0)  : jMet l D ca q0 sa ad yX6_lineMinute cX6_lineMinute 3 (some .int) 4 0 0 [.ref (ad 20 0), .int x, .int y] (jS z n V) (jRet (some (.int 0)) (jS z n (thr (thr (thr V 0) 0) 2))) := by
  refine j_enter RX6 [some (.ref (ad 20 0)), some (.int x), some (.int y)] rfl (by decide) (by simp [Value.category]) (Nat.le_of_ble_eq_true rfl) rfl ?_
  intro p e s m args below meth c K hnm hX
  refine j_aload_n K 0 dX6_lineMinute_0 rfl rfl ?_
  refine j_aload_n K 0 dX6_lineMinute_1 rfl rfl ?_
  refine jGr K 46 0 dX6_lineMinute_2 f_X6_65 rfl rfl rfl rfl ?_
  refine j_iload_n K 1 dX6_lineMinute_5 rfl rfl ?_
  refine j_iload_n K 2 dX6_lineMinute_6 rfl rfl ?_
  refine j_cV3r K dX6_lineMinute_7 m_X6_ofLine v_X6_ofLine k_X6_214 rfl ⟨by decide, rfl⟩ rfl (c_Mof46x3 _ _ hI ha hx hl4 hc4 hj hy h0) (Nat.le_of_ble_eq_true rfl) ⟨by decide, by decide⟩ (by decide) (by decide) ?_
  refine j_iret K dX6_lineMinute_10 ?_
  exact ⟨rfl, rfl⟩
set_option maxRecDepth 20000 in
set_option maxHeartbeats 400000 in
theorem c_Mof46 {l : Launch} {D : va_G} {ca : Nat → ClassId} {q0 : Nat} {sa : Nat → Nat} {ad : jAd} {z n a c4 j : Nat} {V : jV} (x y : Int32) (hI : n ≤ 6 ∧ V 20 0 1 = nI n) (ha : a < n) (hx : x = nI a) (hl4 : V 43 0 a = nI c4) (hc4 : c4 ≤ 4) (hj : j < c4) (hy : y = nI j) (h0 : ¬ V 48 0 (4 * a + j) = 0)  : jMet l D ca q0 sa ad yX6_ofLine cX6_ofLine 4 (some .int) 3 0 0 [.ref (ad 20 0), .ref (ad 46 0), .int x, .int y] (jS z n V) (jRet (some (.int (V 46 0 (4 * a + j)))) (jS z n (thr (thr V 0) 0))) := by
  refine j_enter RX6 [some (.ref (ad 20 0)), some (.ref (ad 46 0)), some (.int x), some (.int y)] rfl (by decide) (by simp [Value.category]) (Nat.le_of_ble_eq_true rfl) rfl ?_
  intro p e s m args below meth c K hnm hX
  have hn6 := hI.1
  have hp := hI.2
  refine j_aload_n K 0 dX6_ofLine_0 rfl rfl ?_
  refine j_iload_n K 2 dX6_ofLine_1 rfl rfl ?_
  refine j_iload_n K 3 dX6_ofLine_2 rfl rfl ?_
  refine j_cV2r K dX6_ofLine_3 m_X6_isLine v_X6_isLine k_X6_211 rfl ⟨by decide, rfl⟩ rfl (c_Mline _ _ hI ha hx hl4 hc4 ⟨j, hj, hy⟩) (Nat.le_of_ble_eq_true rfl) ⟨by decide, by decide⟩ (by decide) (by decide) ?_
  refine j_if_ne K 11 dX6_ofLine_6 (by decide) (fun h_6 => ?_) (fun h_6 => absurd h_6 (by decide))
  refine j_aload_n K 0 dX6_ofLine_11 rfl rfl ?_
  refine jGr K 48 0 dX6_ofLine_12 f_X6_71 rfl rfl rfl rfl ?_
  refine j_iconst K 4 dX6_ofLine_15 rfl ?_
  refine j_iload_n K 2 dX6_ofLine_16 rfl rfl ?_
  refine j_imul K dX6_ofLine_17 ?_
  refine j_iload_n K 3 dX6_ofLine_18 rfl rfl ?_
  refine j_iadd K dX6_ofLine_19 ?_
  refine jIald K (((4 * a) + j)) dX6_ofLine_20 rfl rfl (jx_add (jx_mul rfl hx) hy) (by omega) ?_
  refine j_if_ne K 32 dX6_ofLine_21 (by decide) (fun h_21 => ?_) (fun h_21 => ?_)
  · refine j_aload_n K 1 dX6_ofLine_32 rfl rfl ?_
    refine j_iconst K 4 dX6_ofLine_33 rfl ?_
    refine j_iload_n K 2 dX6_ofLine_34 rfl rfl ?_
    refine j_imul K dX6_ofLine_35 ?_
    refine j_iload_n K 3 dX6_ofLine_36 rfl rfl ?_
    refine j_iadd K dX6_ofLine_37 ?_
    refine jIald K (((4 * a) + j)) dX6_ofLine_38 rfl rfl (jx_add (jx_mul rfl hx) hy) (by omega) ?_
    refine j_iret K dX6_ofLine_39 ?_
    exact ⟨rfl, rfl⟩
  · exact absurd h_21 h0
set_option maxRecDepth 20000 in
set_option maxHeartbeats 400000 in
theorem c_M_lineMinute {l : Launch} {D : va_G} {ca : Nat → ClassId} {q0 : Nat} {sa : Nat → Nat} {ad : jAd} {z n a c4 j : Nat} {V : jV} (x y : Int32) (hI : n ≤ 6 ∧ V 20 0 1 = nI n) (ha : a < n) (hx : x = nI a) (hl4 : V 43 0 a = nI c4) (hc4 : c4 ≤ 4) (hj : j < c4) (hy : y = nI j) (h0 : ¬ V 48 0 (4 * a + j) = 0)  : jMet l D ca q0 sa ad yX6_lineMinute cX6_lineMinute 3 (some .int) 4 0 0 [.ref (ad 20 0), .int x, .int y] (jS z n V) (jRet (some (.int (V 46 0 (4 * a + j)))) (jS z n (thr (thr V 0) 0))) := by
  refine j_enter RX6 [some (.ref (ad 20 0)), some (.int x), some (.int y)] rfl (by decide) (by simp [Value.category]) (Nat.le_of_ble_eq_true rfl) rfl ?_
  intro p e s m args below meth c K hnm hX
  refine j_aload_n K 0 dX6_lineMinute_0 rfl rfl ?_
  refine j_aload_n K 0 dX6_lineMinute_1 rfl rfl ?_
  refine jGr K 46 0 dX6_lineMinute_2 f_X6_65 rfl rfl rfl rfl ?_
  refine j_iload_n K 1 dX6_lineMinute_5 rfl rfl ?_
  refine j_iload_n K 2 dX6_lineMinute_6 rfl rfl ?_
  refine j_cV3r K dX6_lineMinute_7 m_X6_ofLine v_X6_ofLine k_X6_214 rfl ⟨by decide, rfl⟩ rfl (c_Mof46 _ _ hI ha hx hl4 hc4 hj hy h0) (Nat.le_of_ble_eq_true rfl) ⟨by decide, by decide⟩ (by decide) (by decide) ?_
  refine j_iret K dX6_lineMinute_10 ?_
  exact ⟨rfl, rfl⟩
set_option maxRecDepth 20000 in
set_option maxHeartbeats 400000 in
theorem c_Mof47x1 {l : Launch} {D : va_G} {ca : Nat → ClassId} {q0 : Nat} {sa : Nat → Nat} {ad : jAd} {z n : Nat} {V : jV} (x y : Int32) (hI : n ≤ 6 ∧ V 20 0 1 = nI n) (h : ¬ okP n x)  : jMet l D ca q0 sa ad yX6_ofLine cX6_ofLine 4 (some .int) 3 0 0 [.ref (ad 20 0), .ref (ad 47 0), .int x, .int y] (jS z n V) (jRet (some (.int 0)) (jS z n (thr V 1))) := by
  refine j_enter RX6 [some (.ref (ad 20 0)), some (.ref (ad 47 0)), some (.int x), some (.int y)] rfl (by decide) (by simp [Value.category]) (Nat.le_of_ble_eq_true rfl) rfl ?_
  intro p e s m args below meth c K hnm hX
  have hn6 := hI.1
  have hp := hI.2
  refine j_aload_n K 0 dX6_ofLine_0 rfl rfl ?_
  refine j_iload_n K 2 dX6_ofLine_1 rfl rfl ?_
  refine j_iload_n K 3 dX6_ofLine_2 rfl rfl ?_
  refine j_cV2r K dX6_ofLine_3 m_X6_isLine v_X6_isLine k_X6_211 rfl ⟨by decide, rfl⟩ rfl (c_Mline0 _ _ hI h) (Nat.le_of_ble_eq_true rfl) ⟨by decide, by decide⟩ (by decide) (by decide) ?_
  refine j_if_ne K 11 dX6_ofLine_6 (by decide) (fun h_6 => absurd (by decide) h_6) (fun h_6 => ?_)
  refine j_iconst K 0 dX6_ofLine_9 rfl ?_
  refine j_iret K dX6_ofLine_10 ?_
  exact ⟨rfl, rfl⟩
set_option maxRecDepth 20000 in
set_option maxHeartbeats 400000 in
theorem c_M_lineHeightx1 {l : Launch} {D : va_G} {ca : Nat → ClassId} {q0 : Nat} {sa : Nat → Nat} {ad : jAd} {z n : Nat} {V : jV} (x y : Int32) (hI : n ≤ 6 ∧ V 20 0 1 = nI n) (h : ¬ okP n x)  : jMet l D ca q0 sa ad yX6_lineHeight cX6_lineHeight 3 (some .int) 4 0 0 [.ref (ad 20 0), .int x, .int y] (jS z n V) (jRet (some (.int 0)) (jS z n (thr V 1))) := by
  refine j_enter RX6 [some (.ref (ad 20 0)), some (.int x), some (.int y)] rfl (by decide) (by simp [Value.category]) (Nat.le_of_ble_eq_true rfl) rfl ?_
  intro p e s m args below meth c K hnm hX
  refine j_aload_n K 0 dX6_lineHeight_0 rfl rfl ?_
  refine j_aload_n K 0 dX6_lineHeight_1 rfl rfl ?_
  refine jGr K 47 0 dX6_lineHeight_2 f_X6_68 rfl rfl rfl rfl ?_
  refine j_iload_n K 1 dX6_lineHeight_5 rfl rfl ?_
  refine j_iload_n K 2 dX6_lineHeight_6 rfl rfl ?_
  refine j_cV3r K dX6_lineHeight_7 m_X6_ofLine v_X6_ofLine k_X6_214 rfl ⟨by decide, rfl⟩ rfl (c_Mof47x1 _ _ hI h) (Nat.le_of_ble_eq_true rfl) ⟨by decide, by decide⟩ (by decide) (by decide) ?_
  refine j_iret K dX6_lineHeight_10 ?_
  exact ⟨rfl, rfl⟩
set_option maxRecDepth 20000 in
set_option maxHeartbeats 400000 in
theorem c_Mof47x2 {l : Launch} {D : va_G} {ca : Nat → ClassId} {q0 : Nat} {sa : Nat → Nat} {ad : jAd} {z n a c4 : Nat} {V : jV} (x y : Int32) (hI : n ≤ 6 ∧ V 20 0 1 = nI n) (ha : a < n) (hx : x = nI a) (hl4 : V 43 0 a = nI c4) (hc4 : c4 ≤ 4) (hy : ¬ okP c4 y)  : jMet l D ca q0 sa ad yX6_ofLine cX6_ofLine 4 (some .int) 3 0 0 [.ref (ad 20 0), .ref (ad 47 0), .int x, .int y] (jS z n V) (jRet (some (.int 0)) (jS z n (thr (thr V 0) 1))) := by
  refine j_enter RX6 [some (.ref (ad 20 0)), some (.ref (ad 47 0)), some (.int x), some (.int y)] rfl (by decide) (by simp [Value.category]) (Nat.le_of_ble_eq_true rfl) rfl ?_
  intro p e s m args below meth c K hnm hX
  have hn6 := hI.1
  have hp := hI.2
  refine j_aload_n K 0 dX6_ofLine_0 rfl rfl ?_
  refine j_iload_n K 2 dX6_ofLine_1 rfl rfl ?_
  refine j_iload_n K 3 dX6_ofLine_2 rfl rfl ?_
  refine j_cV2r K dX6_ofLine_3 m_X6_isLine v_X6_isLine k_X6_211 rfl ⟨by decide, rfl⟩ rfl (c_Mline1 _ _ hI ha hx hl4 hc4 hy) (Nat.le_of_ble_eq_true rfl) ⟨by decide, by decide⟩ (by decide) (by decide) ?_
  refine j_if_ne K 11 dX6_ofLine_6 (by decide) (fun h_6 => absurd (by decide) h_6) (fun h_6 => ?_)
  refine j_iconst K 0 dX6_ofLine_9 rfl ?_
  refine j_iret K dX6_ofLine_10 ?_
  exact ⟨rfl, rfl⟩
set_option maxRecDepth 20000 in
set_option maxHeartbeats 400000 in
theorem c_M_lineHeightx2 {l : Launch} {D : va_G} {ca : Nat → ClassId} {q0 : Nat} {sa : Nat → Nat} {ad : jAd} {z n a c4 : Nat} {V : jV} (x y : Int32) (hI : n ≤ 6 ∧ V 20 0 1 = nI n) (ha : a < n) (hx : x = nI a) (hl4 : V 43 0 a = nI c4) (hc4 : c4 ≤ 4) (hy : ¬ okP c4 y)  : jMet l D ca q0 sa ad yX6_lineHeight cX6_lineHeight 3 (some .int) 4 0 0 [.ref (ad 20 0), .int x, .int y] (jS z n V) (jRet (some (.int 0)) (jS z n (thr (thr V 0) 1))) := by
  refine j_enter RX6 [some (.ref (ad 20 0)), some (.int x), some (.int y)] rfl (by decide) (by simp [Value.category]) (Nat.le_of_ble_eq_true rfl) rfl ?_
  intro p e s m args below meth c K hnm hX
  refine j_aload_n K 0 dX6_lineHeight_0 rfl rfl ?_
  refine j_aload_n K 0 dX6_lineHeight_1 rfl rfl ?_
  refine jGr K 47 0 dX6_lineHeight_2 f_X6_68 rfl rfl rfl rfl ?_
  refine j_iload_n K 1 dX6_lineHeight_5 rfl rfl ?_
  refine j_iload_n K 2 dX6_lineHeight_6 rfl rfl ?_
  refine j_cV3r K dX6_lineHeight_7 m_X6_ofLine v_X6_ofLine k_X6_214 rfl ⟨by decide, rfl⟩ rfl (c_Mof47x2 _ _ hI ha hx hl4 hc4 hy) (Nat.le_of_ble_eq_true rfl) ⟨by decide, by decide⟩ (by decide) (by decide) ?_
  refine j_iret K dX6_lineHeight_10 ?_
  exact ⟨rfl, rfl⟩
set_option maxRecDepth 20000 in
set_option maxHeartbeats 400000 in
theorem c_Mof47x3 {l : Launch} {D : va_G} {ca : Nat → ClassId} {q0 : Nat} {sa : Nat → Nat} {ad : jAd} {z n a c4 j : Nat} {V : jV} (x y : Int32) (hI : n ≤ 6 ∧ V 20 0 1 = nI n) (ha : a < n) (hx : x = nI a) (hl4 : V 43 0 a = nI c4) (hc4 : c4 ≤ 4) (hj : j < c4) (hy : y = nI j) (h0 : V 48 0 (4 * a + j) = 0)  : jMet l D ca q0 sa ad yX6_ofLine cX6_ofLine 4 (some .int) 3 0 0 [.ref (ad 20 0), .ref (ad 47 0), .int x, .int y] (jS z n V) (jRet (some (.int 0)) (jS z n (thr (thr (thr V 0) 0) 2))) := by
  refine j_enter RX6 [some (.ref (ad 20 0)), some (.ref (ad 47 0)), some (.int x), some (.int y)] rfl (by decide) (by simp [Value.category]) (Nat.le_of_ble_eq_true rfl) rfl ?_
  intro p e s m args below meth c K hnm hX
  have hn6 := hI.1
  have hp := hI.2
  refine j_aload_n K 0 dX6_ofLine_0 rfl rfl ?_
  refine j_iload_n K 2 dX6_ofLine_1 rfl rfl ?_
  refine j_iload_n K 3 dX6_ofLine_2 rfl rfl ?_
  refine j_cV2r K dX6_ofLine_3 m_X6_isLine v_X6_isLine k_X6_211 rfl ⟨by decide, rfl⟩ rfl (c_Mline _ _ hI ha hx hl4 hc4 ⟨j, hj, hy⟩) (Nat.le_of_ble_eq_true rfl) ⟨by decide, by decide⟩ (by decide) (by decide) ?_
  refine j_if_ne K 11 dX6_ofLine_6 (by decide) (fun h_6 => ?_) (fun h_6 => absurd h_6 (by decide))
  refine j_aload_n K 0 dX6_ofLine_11 rfl rfl ?_
  refine jGr K 48 0 dX6_ofLine_12 f_X6_71 rfl rfl rfl rfl ?_
  refine j_iconst K 4 dX6_ofLine_15 rfl ?_
  refine j_iload_n K 2 dX6_ofLine_16 rfl rfl ?_
  refine j_imul K dX6_ofLine_17 ?_
  refine j_iload_n K 3 dX6_ofLine_18 rfl rfl ?_
  refine j_iadd K dX6_ofLine_19 ?_
  refine jIald K (((4 * a) + j)) dX6_ofLine_20 rfl rfl (jx_add (jx_mul rfl hx) hy) (by omega) ?_
  refine j_if_ne K 32 dX6_ofLine_21 (by decide) (fun h_21 => ?_) (fun h_21 => ?_)
  · exact absurd h0 h_21
  · refine j_aload_n K 0 dX6_ofLine_24 rfl rfl ?_
    refine j_iconst K 2 dX6_ofLine_25 rfl ?_
    refine j_cV1r K dX6_ofLine_26 m_X6_fail v_X6_fail k_X6_98 rfl ⟨by decide, rfl⟩ rfl (c_MF _) (Nat.le_of_ble_eq_true rfl) ⟨by decide, by decide⟩ (by decide) (by decide) ?_
    refine j_goto K 39 dX6_ofLine_29 (by decide) ?_
    refine j_iret K dX6_ofLine_39 ?_
    exact ⟨rfl, rfl⟩
set_option maxRecDepth 20000 in
set_option maxHeartbeats 400000 in
theorem c_M_lineHeightx3 {l : Launch} {D : va_G} {ca : Nat → ClassId} {q0 : Nat} {sa : Nat → Nat} {ad : jAd} {z n a c4 j : Nat} {V : jV} (x y : Int32) (hI : n ≤ 6 ∧ V 20 0 1 = nI n) (ha : a < n) (hx : x = nI a) (hl4 : V 43 0 a = nI c4) (hc4 : c4 ≤ 4) (hj : j < c4) (hy : y = nI j) (h0 : V 48 0 (4 * a + j) = 0)  : jMet l D ca q0 sa ad yX6_lineHeight cX6_lineHeight 3 (some .int) 4 0 0 [.ref (ad 20 0), .int x, .int y] (jS z n V) (jRet (some (.int 0)) (jS z n (thr (thr (thr V 0) 0) 2))) := by
  refine j_enter RX6 [some (.ref (ad 20 0)), some (.int x), some (.int y)] rfl (by decide) (by simp [Value.category]) (Nat.le_of_ble_eq_true rfl) rfl ?_
  intro p e s m args below meth c K hnm hX
  refine j_aload_n K 0 dX6_lineHeight_0 rfl rfl ?_
  refine j_aload_n K 0 dX6_lineHeight_1 rfl rfl ?_
  refine jGr K 47 0 dX6_lineHeight_2 f_X6_68 rfl rfl rfl rfl ?_
  refine j_iload_n K 1 dX6_lineHeight_5 rfl rfl ?_
  refine j_iload_n K 2 dX6_lineHeight_6 rfl rfl ?_
  refine j_cV3r K dX6_lineHeight_7 m_X6_ofLine v_X6_ofLine k_X6_214 rfl ⟨by decide, rfl⟩ rfl (c_Mof47x3 _ _ hI ha hx hl4 hc4 hj hy h0) (Nat.le_of_ble_eq_true rfl) ⟨by decide, by decide⟩ (by decide) (by decide) ?_
  refine j_iret K dX6_lineHeight_10 ?_
  exact ⟨rfl, rfl⟩
set_option maxRecDepth 20000 in
set_option maxHeartbeats 400000 in
theorem c_Mof47 {l : Launch} {D : va_G} {ca : Nat → ClassId} {q0 : Nat} {sa : Nat → Nat} {ad : jAd} {z n a c4 j : Nat} {V : jV} (x y : Int32) (hI : n ≤ 6 ∧ V 20 0 1 = nI n) (ha : a < n) (hx : x = nI a) (hl4 : V 43 0 a = nI c4) (hc4 : c4 ≤ 4) (hj : j < c4) (hy : y = nI j) (h0 : ¬ V 48 0 (4 * a + j) = 0)  : jMet l D ca q0 sa ad yX6_ofLine cX6_ofLine 4 (some .int) 3 0 0 [.ref (ad 20 0), .ref (ad 47 0), .int x, .int y] (jS z n V) (jRet (some (.int (V 47 0 (4 * a + j)))) (jS z n (thr (thr V 0) 0))) := by
  refine j_enter RX6 [some (.ref (ad 20 0)), some (.ref (ad 47 0)), some (.int x), some (.int y)] rfl (by decide) (by simp [Value.category]) (Nat.le_of_ble_eq_true rfl) rfl ?_
  intro p e s m args below meth c K hnm hX
  have hn6 := hI.1
  have hp := hI.2
  refine j_aload_n K 0 dX6_ofLine_0 rfl rfl ?_
  refine j_iload_n K 2 dX6_ofLine_1 rfl rfl ?_
  refine j_iload_n K 3 dX6_ofLine_2 rfl rfl ?_
  refine j_cV2r K dX6_ofLine_3 m_X6_isLine v_X6_isLine k_X6_211 rfl ⟨by decide, rfl⟩ rfl (c_Mline _ _ hI ha hx hl4 hc4 ⟨j, hj, hy⟩) (Nat.le_of_ble_eq_true rfl) ⟨by decide, by decide⟩ (by decide) (by decide) ?_
  refine j_if_ne K 11 dX6_ofLine_6 (by decide) (fun h_6 => ?_) (fun h_6 => absurd h_6 (by decide))
  refine j_aload_n K 0 dX6_ofLine_11 rfl rfl ?_
  refine jGr K 48 0 dX6_ofLine_12 f_X6_71 rfl rfl rfl rfl ?_
  refine j_iconst K 4 dX6_ofLine_15 rfl ?_
  refine j_iload_n K 2 dX6_ofLine_16 rfl rfl ?_
  refine j_imul K dX6_ofLine_17 ?_
  refine j_iload_n K 3 dX6_ofLine_18 rfl rfl ?_
  refine j_iadd K dX6_ofLine_19 ?_
  refine jIald K (((4 * a) + j)) dX6_ofLine_20 rfl rfl (jx_add (jx_mul rfl hx) hy) (by omega) ?_
  refine j_if_ne K 32 dX6_ofLine_21 (by decide) (fun h_21 => ?_) (fun h_21 => ?_)
  · refine j_aload_n K 1 dX6_ofLine_32 rfl rfl ?_
    refine j_iconst K 4 dX6_ofLine_33 rfl ?_
    refine j_iload_n K 2 dX6_ofLine_34 rfl rfl ?_
    refine j_imul K dX6_ofLine_35 ?_
    refine j_iload_n K 3 dX6_ofLine_36 rfl rfl ?_
    refine j_iadd K dX6_ofLine_37 ?_
    refine jIald K (((4 * a) + j)) dX6_ofLine_38 rfl rfl (jx_add (jx_mul rfl hx) hy) (by omega) ?_
    refine j_iret K dX6_ofLine_39 ?_
    exact ⟨rfl, rfl⟩
  · exact absurd h_21 h0
set_option maxRecDepth 20000 in
set_option maxHeartbeats 400000 in
theorem c_M_lineHeight {l : Launch} {D : va_G} {ca : Nat → ClassId} {q0 : Nat} {sa : Nat → Nat} {ad : jAd} {z n a c4 j : Nat} {V : jV} (x y : Int32) (hI : n ≤ 6 ∧ V 20 0 1 = nI n) (ha : a < n) (hx : x = nI a) (hl4 : V 43 0 a = nI c4) (hc4 : c4 ≤ 4) (hj : j < c4) (hy : y = nI j) (h0 : ¬ V 48 0 (4 * a + j) = 0)  : jMet l D ca q0 sa ad yX6_lineHeight cX6_lineHeight 3 (some .int) 4 0 0 [.ref (ad 20 0), .int x, .int y] (jS z n V) (jRet (some (.int (V 47 0 (4 * a + j)))) (jS z n (thr (thr V 0) 0))) := by
  refine j_enter RX6 [some (.ref (ad 20 0)), some (.int x), some (.int y)] rfl (by decide) (by simp [Value.category]) (Nat.le_of_ble_eq_true rfl) rfl ?_
  intro p e s m args below meth c K hnm hX
  refine j_aload_n K 0 dX6_lineHeight_0 rfl rfl ?_
  refine j_aload_n K 0 dX6_lineHeight_1 rfl rfl ?_
  refine jGr K 47 0 dX6_lineHeight_2 f_X6_68 rfl rfl rfl rfl ?_
  refine j_iload_n K 1 dX6_lineHeight_5 rfl rfl ?_
  refine j_iload_n K 2 dX6_lineHeight_6 rfl rfl ?_
  refine j_cV3r K dX6_lineHeight_7 m_X6_ofLine v_X6_ofLine k_X6_214 rfl ⟨by decide, rfl⟩ rfl (c_Mof47 _ _ hI ha hx hl4 hc4 hj hy h0) (Nat.le_of_ble_eq_true rfl) ⟨by decide, by decide⟩ (by decide) (by decide) ?_
  refine j_iret K dX6_lineHeight_10 ?_
  exact ⟨rfl, rfl⟩
