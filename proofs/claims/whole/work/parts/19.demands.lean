/-- what the class's part of the memory keeps -/
def XI (n : Nat) (V : jV) : Prop := n ≤ 6 ∧ V 0 0 1 = nI n ∧ (∀ i, i < n → RI V i (tn (V 11 i 3))) ∧ (∀ i, i < n → V 6 i 3 = nI (tn (V 6 i 3)) ∧ tn (V 6 i 3) ≤ 4) ∧ (∀ q, q < 2 → V 4 q 1 = nI (tn (V 4 q 1)) ∧ tn (V 4 q 1) ≤ 12) ∧ (V 0 0 8 = -1 ∨ V 0 0 8 = nI (tn (V 0 0 8)) ∧ tn (V 0 0 8) < n)
def okP (n : Nat) (x : Int32) : Prop := ∃ p, p < n ∧ x = nI p
theorem okP_of {n : Nat} {x y : Int32} (hn : n ≤ 6) (hy : y = nI n) (h0 : ¬ x < 0) (h1 : x < y) : okP n x := by
  obtain ⟨j, hj, rfl⟩ := nI_of h0
  exact ⟨j, nlt1 h1 rfl hy hj (by omega), rfl⟩
def bI (b : Bool) : Int32 := if b = true then 1 else 0
theorem bI_01 (b : Bool) : bI b = 0 ∨ bI b = 1 := by cases b <;> simp [bI]
theorem lv_pier {n i : Nat} (h : i < n) : LV n 6 i = true := by simp [LV, h]
set_option maxRecDepth 20000 in
set_option maxHeartbeats 400000 in
theorem c_dW {l : Launch} {D : va_G} {ca : Nat → ClassId} {q0 : Nat} {sa : Nat → Nat} {ad : jAd} {M : jM} (x lo hi : Int32) (h : lo ≤ x ∧ x ≤ hi) : jMet l D ca q0 sa ad yX5_demandWithin cX5_demandWithin 3 none 0 0 0 [.int x, .int lo, .int hi] (M) (jRet none M) := by
  refine j_enter RX5 [some (.int x), some (.int lo), some (.int hi)] rfl (by decide) (by simp [Value.category]) (Nat.le_of_ble_eq_true rfl) rfl ?_
  intro p e s m args below meth c K hnm hX
  refine j_iload_n K 0 dX5_demandWithin_0 rfl rfl ?_
  refine j_iload_n K 1 dX5_demandWithin_1 rfl rfl ?_
  refine j_icmp_lt K 10 dX5_demandWithin_2 (by decide) (fun h_2 => ?_) (fun h_2 => ?_)
  · exact absurd h.1 (Int32.not_le.mpr h_2)
  · refine j_iload_n K 0 dX5_demandWithin_5 rfl rfl ?_
    refine j_iload_n K 2 dX5_demandWithin_6 rfl rfl ?_
    refine j_icmp_le K 20 dX5_demandWithin_7 (by decide) (fun h_7 => ?_) (fun h_7 => ?_)
    · refine j_vret K dX5_demandWithin_20 ?_
      exact ⟨rfl, rfl⟩
    · exact absurd h.2 h_7
set_option maxRecDepth 20000 in
set_option maxHeartbeats 400000 in
theorem c_dWx {l : Launch} {D : va_G} {ca : Nat → ClassId} {q0 : Nat} {sa : Nat → Nat} {ad : jAd} {M : jM} (x lo hi : Int32) (h : ¬ (lo ≤ x ∧ x ≤ hi)) : jMet l D ca q0 sa ad yX5_demandWithin cX5_demandWithin 3 none 0 1 6 [.int x, .int lo, .int hi] (M) (jExc "java/lang/IllegalArgumentException" M) := by
  refine j_enter RX5 [some (.int x), some (.int lo), some (.int hi)] rfl (by decide) (by simp [Value.category]) (Nat.le_of_ble_eq_true rfl) rfl ?_
  intro p e s m args below meth c K hnm hX
  refine j_iload_n K 0 dX5_demandWithin_0 rfl rfl ?_
  refine j_iload_n K 1 dX5_demandWithin_1 rfl rfl ?_
  refine j_icmp_lt K 10 dX5_demandWithin_2 (by decide) (fun h_2 => ?_) (fun h_2 => ?_)
  · exact j_throw (text := "a parameter is out of range") K hX thr_IAE (by decide +kernel) dX5_demandWithin_10 dX5_demandWithin_13 dX5_demandWithin_14 dX5_demandWithin_16 dX5_demandWithin_19 (by decide) (by decide) (Nat.le_of_ble_eq_true rfl) (fun _ => ⟨rfl, rfl⟩)
  · refine j_iload_n K 0 dX5_demandWithin_5 rfl rfl ?_
    refine j_iload_n K 2 dX5_demandWithin_6 rfl rfl ?_
    refine j_icmp_le K 20 dX5_demandWithin_7 (by decide) (fun h_7 => ?_) (fun h_7 => ?_)
    · exact absurd ⟨Int32.not_lt.mp h_2, h_7⟩ h
    · exact j_throw (text := "a parameter is out of range") K hX thr_IAE (by decide +kernel) dX5_demandWithin_10 dX5_demandWithin_13 dX5_demandWithin_14 dX5_demandWithin_16 dX5_demandWithin_19 (by decide) (by decide) (Nat.le_of_ble_eq_true rfl) (fun _ => ⟨rfl, rfl⟩)
set_option maxRecDepth 20000 in
set_option maxHeartbeats 400000 in
theorem c_dD {l : Launch} {D : va_G} {ca : Nat → ClassId} {q0 : Nat} {sa : Nat → Nat} {ad : jAd} {M : jM} (x : Int32) (h : 0 ≤ x ∧ x ≤ 99999) : jMet l D ca q0 sa ad yX5_demandDay cX5_demandDay 1 none 1 0 0 [.int x] (M) (jRet none M) := by
  refine j_enter RX5 [some (.int x)] rfl (by decide) (by simp [Value.category]) (Nat.le_of_ble_eq_true rfl) rfl ?_
  intro p e s m args below meth c K hnm hX
  refine j_iload_n K 0 dX5_demandDay_0 rfl rfl ?_
  refine j_iconst K 0 dX5_demandDay_1 rfl ?_
  refine j_ldcw K 99999 dX5_demandDay_2 kc_X5_256 ?_
  refine j_cS3n K dX5_demandDay_5 m_X5_demandWithin s_X5_demandWithin k_X5_55 (c_dW _ _ _ h) (Nat.le_of_ble_eq_true rfl) ⟨by decide, by decide⟩ (by decide) (by decide) ?_
  refine j_vret K dX5_demandDay_8 ?_
  exact ⟨rfl, rfl⟩
set_option maxRecDepth 20000 in
set_option maxHeartbeats 400000 in
theorem c_dDx {l : Launch} {D : va_G} {ca : Nat → ClassId} {q0 : Nat} {sa : Nat → Nat} {ad : jAd} {M : jM} (x : Int32) (h : ¬ (0 ≤ x ∧ x ≤ 99999)) : jMet l D ca q0 sa ad yX5_demandDay cX5_demandDay 1 none 1 1 6 [.int x] (M) (jExc "java/lang/IllegalArgumentException" M) := by
  refine j_enter RX5 [some (.int x)] rfl (by decide) (by simp [Value.category]) (Nat.le_of_ble_eq_true rfl) rfl ?_
  intro p e s m args below meth c K hnm hX
  refine j_iload_n K 0 dX5_demandDay_0 rfl rfl ?_
  refine j_iconst K 0 dX5_demandDay_1 rfl ?_
  refine j_ldcw K 99999 dX5_demandDay_2 kc_X5_256 ?_
  exact j_cS3x K dX5_demandDay_5 m_X5_demandWithin s_X5_demandWithin k_X5_55 (c_dWx _ _ _ h) (Nat.le_of_ble_eq_true rfl) ⟨by decide, by decide⟩ (by decide) (by decide) hX (fun _ => ⟨rfl, rfl⟩)
set_option maxRecDepth 20000 in
set_option maxHeartbeats 400000 in
theorem c_dM {l : Launch} {D : va_G} {ca : Nat → ClassId} {q0 : Nat} {sa : Nat → Nat} {ad : jAd} {M : jM} (x : Int32) (h : (-60) ≤ x ∧ x ≤ 60) : jMet l D ca q0 sa ad yX5_demandMinutesLate cX5_demandMinutesLate 1 none 1 0 0 [.int x] (M) (jRet none M) := by
  refine j_enter RX5 [some (.int x)] rfl (by decide) (by simp [Value.category]) (Nat.le_of_ble_eq_true rfl) rfl ?_
  intro p e s m args below meth c K hnm hX
  refine j_iload_n K 0 dX5_demandMinutesLate_0 rfl rfl ?_
  refine j_bipush K (-60) dX5_demandMinutesLate_1 rfl ?_
  refine j_bipush K 60 dX5_demandMinutesLate_3 rfl ?_
  refine j_cS3n K dX5_demandMinutesLate_5 m_X5_demandWithin s_X5_demandWithin k_X5_55 (c_dW _ _ _ h) (Nat.le_of_ble_eq_true rfl) ⟨by decide, by decide⟩ (by decide) (by decide) ?_
  refine j_vret K dX5_demandMinutesLate_8 ?_
  exact ⟨rfl, rfl⟩
set_option maxRecDepth 20000 in
set_option maxHeartbeats 400000 in
theorem c_dMx {l : Launch} {D : va_G} {ca : Nat → ClassId} {q0 : Nat} {sa : Nat → Nat} {ad : jAd} {M : jM} (x : Int32) (h : ¬ ((-60) ≤ x ∧ x ≤ 60)) : jMet l D ca q0 sa ad yX5_demandMinutesLate cX5_demandMinutesLate 1 none 1 1 6 [.int x] (M) (jExc "java/lang/IllegalArgumentException" M) := by
  refine j_enter RX5 [some (.int x)] rfl (by decide) (by simp [Value.category]) (Nat.le_of_ble_eq_true rfl) rfl ?_
  intro p e s m args below meth c K hnm hX
  refine j_iload_n K 0 dX5_demandMinutesLate_0 rfl rfl ?_
  refine j_bipush K (-60) dX5_demandMinutesLate_1 rfl ?_
  refine j_bipush K 60 dX5_demandMinutesLate_3 rfl ?_
  exact j_cS3x K dX5_demandMinutesLate_5 m_X5_demandWithin s_X5_demandWithin k_X5_55 (c_dWx _ _ _ h) (Nat.le_of_ble_eq_true rfl) ⟨by decide, by decide⟩ (by decide) (by decide) hX (fun _ => ⟨rfl, rfl⟩)
set_option maxRecDepth 20000 in
set_option maxHeartbeats 400000 in
theorem c_dF {l : Launch} {D : va_G} {ca : Nat → ClassId} {q0 : Nat} {sa : Nat → Nat} {ad : jAd} {M : jM} (x : Int32) (h : okP 6 x) : jMet l D ca q0 sa ad yX5_demandFisherman cX5_demandFisherman 1 none 0 0 0 [.int x] (M) (jRet none M) := by
  refine j_enter RX5 [some (.int x)] rfl (by decide) (by simp [Value.category]) (Nat.le_of_ble_eq_true rfl) rfl ?_
  intro p e s m args below meth c K hnm hX
  refine j_iload_n K 0 dX5_demandFisherman_0 rfl rfl ?_
  refine j_if_lt K 10 dX5_demandFisherman_1 (by decide) (fun h_1 => ?_) (fun h_1 => ?_)
  · obtain ⟨f, hf, rfl⟩ := h
    exact absurd h_1 (nI_pos (by omega))
  · refine j_iload_n K 0 dX5_demandFisherman_4 rfl rfl ?_
    refine j_bipush K 6 dX5_demandFisherman_5 rfl ?_
    refine j_icmp_lt K 21 dX5_demandFisherman_7 (by decide) (fun h_7 => ?_) (fun h_7 => ?_)
    · refine j_vret K dX5_demandFisherman_21 ?_
      exact ⟨rfl, rfl⟩
    · obtain ⟨f, hf, rfl⟩ := h
      exact absurd ((nlt (by omega) (by decide) rfl (b := 6) rfl).mpr hf) h_7
set_option maxRecDepth 20000 in
set_option maxHeartbeats 400000 in
theorem c_dFx {l : Launch} {D : va_G} {ca : Nat → ClassId} {q0 : Nat} {sa : Nat → Nat} {ad : jAd} {M : jM} (x : Int32) (h : ¬ okP 6 x) : jMet l D ca q0 sa ad yX5_demandFisherman cX5_demandFisherman 1 none 0 1 6 [.int x] (M) (jExc "java/lang/IndexOutOfBoundsException" M) := by
  refine j_enter RX5 [some (.int x)] rfl (by decide) (by simp [Value.category]) (Nat.le_of_ble_eq_true rfl) rfl ?_
  intro p e s m args below meth c K hnm hX
  refine j_iload_n K 0 dX5_demandFisherman_0 rfl rfl ?_
  refine j_if_lt K 10 dX5_demandFisherman_1 (by decide) (fun h_1 => ?_) (fun h_1 => ?_)
  · exact j_throwW (text := "no such fisherman") K hX thr_IOB (by decide +kernel) dX5_demandFisherman_10 dX5_demandFisherman_13 dX5_demandFisherman_14 dX5_demandFisherman_17 dX5_demandFisherman_20 (by decide) (by decide) (Nat.le_of_ble_eq_true rfl) (fun _ => ⟨rfl, rfl⟩)
  · refine j_iload_n K 0 dX5_demandFisherman_4 rfl rfl ?_
    refine j_bipush K 6 dX5_demandFisherman_5 rfl ?_
    refine j_icmp_lt K 21 dX5_demandFisherman_7 (by decide) (fun h_7 => ?_) (fun h_7 => ?_)
    · exact absurd (okP_of (by decide) (y := 6) rfl h_1 h_7) h
    · exact j_throwW (text := "no such fisherman") K hX thr_IOB (by decide +kernel) dX5_demandFisherman_10 dX5_demandFisherman_13 dX5_demandFisherman_14 dX5_demandFisherman_17 dX5_demandFisherman_20 (by decide) (by decide) (Nat.le_of_ble_eq_true rfl) (fun _ => ⟨rfl, rfl⟩)
set_option maxRecDepth 20000 in
set_option maxHeartbeats 400000 in
theorem c_dP {l : Launch} {D : va_G} {ca : Nat → ClassId} {q0 : Nat} {sa : Nat → Nat} {ad : jAd} {z n : Nat} {V : jV} (x : Int32) (hI : XI n V) (h : okP n x) : jMet l D ca q0 sa ad yX5_demandPier cX5_demandPier 2 none 0 0 0 [.ref (ad 0 0), .int x] (jS z n V) (jRet none (jS z n V)) := by
  refine j_enter RX5 [some (.ref (ad 0 0)), some (.int x)] rfl (by decide) (by simp [Value.category]) (Nat.le_of_ble_eq_true rfl) rfl ?_
  intro p e s m args below meth c K hnm hX
  have hn6 := hI.1
  refine j_iload_n K 1 dX5_demandPier_0 rfl rfl ?_
  refine j_if_lt K 12 dX5_demandPier_1 (by decide) (fun h_1 => ?_) (fun h_1 => ?_)
  · obtain ⟨f, hf, rfl⟩ := h
    exact absurd h_1 (nI_pos (by omega))
  · refine j_iload_n K 1 dX5_demandPier_4 rfl rfl ?_
    refine j_aload_n K 0 dX5_demandPier_5 rfl rfl ?_
    refine jGi K dX5_demandPier_6 f_X5_15 rfl rfl rfl ?_
    refine j_icmp_lt K 23 dX5_demandPier_9 (by decide) (fun h_9 => ?_) (fun h_9 => ?_)
    · refine j_vret K dX5_demandPier_23 ?_
      exact ⟨rfl, rfl⟩
    · obtain ⟨f, hf, rfl⟩ := h
      exact absurd ((nlt (by omega) (by omega) rfl hI.2.1).mpr hf) h_9
set_option maxRecDepth 20000 in
set_option maxHeartbeats 400000 in
theorem c_dPx {l : Launch} {D : va_G} {ca : Nat → ClassId} {q0 : Nat} {sa : Nat → Nat} {ad : jAd} {z n : Nat} {V : jV} (x : Int32) (hI : XI n V) (h : ¬ okP n x) : jMet l D ca q0 sa ad yX5_demandPier cX5_demandPier 2 none 0 1 6 [.ref (ad 0 0), .int x] (jS z n V) (jExc "java/lang/IndexOutOfBoundsException" (jS z n V)) := by
  refine j_enter RX5 [some (.ref (ad 0 0)), some (.int x)] rfl (by decide) (by simp [Value.category]) (Nat.le_of_ble_eq_true rfl) rfl ?_
  intro p e s m args below meth c K hnm hX
  have hn6 := hI.1
  refine j_iload_n K 1 dX5_demandPier_0 rfl rfl ?_
  refine j_if_lt K 12 dX5_demandPier_1 (by decide) (fun h_1 => ?_) (fun h_1 => ?_)
  · exact j_throwW (text := "no such pier") K hX thr_IOB (by decide +kernel) dX5_demandPier_12 dX5_demandPier_15 dX5_demandPier_16 dX5_demandPier_19 dX5_demandPier_22 (by decide) (by decide) (Nat.le_of_ble_eq_true rfl) (fun _ => ⟨rfl, rfl⟩)
  · refine j_iload_n K 1 dX5_demandPier_4 rfl rfl ?_
    refine j_aload_n K 0 dX5_demandPier_5 rfl rfl ?_
    refine jGi K dX5_demandPier_6 f_X5_15 rfl rfl rfl ?_
    refine j_icmp_lt K 23 dX5_demandPier_9 (by decide) (fun h_9 => ?_) (fun h_9 => ?_)
    · exact absurd (okP_of hn6 hI.2.1 h_1 h_9) h
    · exact j_throwW (text := "no such pier") K hX thr_IOB (by decide +kernel) dX5_demandPier_12 dX5_demandPier_15 dX5_demandPier_16 dX5_demandPier_19 dX5_demandPier_22 (by decide) (by decide) (Nat.le_of_ble_eq_true rfl) (fun _ => ⟨rfl, rfl⟩)
set_option maxRecDepth 20000 in
set_option maxHeartbeats 400000 in
theorem c_pN {l : Launch} {D : va_G} {ca : Nat → ClassId} {q0 : Nat} {sa : Nat → Nat} {ad : jAd} {z n a : Nat} {V : jV} (x : Int32) (hI : XI n V) (ha : a < n) (hx : x = nI a)  : jMet l D ca q0 sa ad yX5_pierNumbered cX5_pierNumbered 2 (some (.object "TideTablePainters$Pier")) 1 0 0 [.ref (ad 0 0), .int x] (jS z n V) (jRet (some (.ref (ad 10 a))) (jS z n V)) := by
  refine j_enter RX5 [some (.ref (ad 0 0)), some (.int x)] rfl (by decide) (by simp [Value.category]) (Nat.le_of_ble_eq_true rfl) rfl ?_
  intro p e s m args below meth c K hnm hX
  have hn6 := hI.1
  have hl : decide (a < n) = true := decide_eq_true ha
  have ht : LV n 6 a = true := lv_pier ha
  refine j_aload_n K 0 dX5_pierNumbered_0 rfl rfl ?_
  refine j_iload_n K 1 dX5_pierNumbered_1 rfl rfl ?_
  refine j_cV1n K dX5_pierNumbered_2 m_X5_demandPier v_X5_demandPier k_X5_185 rfl ⟨by decide, rfl⟩ rfl (c_dP _ hI ⟨a, ha, hx⟩) (Nat.le_of_ble_eq_true rfl) ⟨by decide, by decide⟩ (by decide) (by decide) ?_
  refine j_aload_n K 0 dX5_pierNumbered_5 rfl rfl ?_
  refine jGr K 1 0 dX5_pierNumbered_6 f_X5_11 rfl rfl rfl rfl ?_
  refine j_iload_n K 1 dX5_pierNumbered_9 rfl rfl ?_
  refine jAald K (a) 10 (a) dX5_pierNumbered_10 rfl rfl hx (by omega) (rf_pier (by omega)) ?_
  refine j_aret K dX5_pierNumbered_11 ?_
  exact ⟨rfl, rfl⟩
set_option maxRecDepth 20000 in
set_option maxHeartbeats 400000 in
theorem c_pNx {l : Launch} {D : va_G} {ca : Nat → ClassId} {q0 : Nat} {sa : Nat → Nat} {ad : jAd} {z n : Nat} {V : jV} (x : Int32) (hI : XI n V) (h : ¬ okP n x) : jMet l D ca q0 sa ad yX5_pierNumbered cX5_pierNumbered 2 (some (.object "TideTablePainters$Pier")) 1 1 6 [.ref (ad 0 0), .int x] (jS z n V) (jExc "java/lang/IndexOutOfBoundsException" (jS z n V)) := by
  refine j_enter RX5 [some (.ref (ad 0 0)), some (.int x)] rfl (by decide) (by simp [Value.category]) (Nat.le_of_ble_eq_true rfl) rfl ?_
  intro p e s m args below meth c K hnm hX
  refine j_aload_n K 0 dX5_pierNumbered_0 rfl rfl ?_
  refine j_iload_n K 1 dX5_pierNumbered_1 rfl rfl ?_
  exact j_cV1x K dX5_pierNumbered_2 m_X5_demandPier v_X5_demandPier k_X5_185 rfl ⟨by decide, rfl⟩ rfl (c_dPx _ hI h) (Nat.le_of_ble_eq_true rfl) ⟨by decide, by decide⟩ (by decide) (by decide) hX (fun _ => ⟨rfl, rfl⟩)
set_option maxRecDepth 20000 in
set_option maxHeartbeats 400000 in
theorem c_rF {l : Launch} {D : va_G} {ca : Nat → ClassId} {q0 : Nat} {sa : Nat → Nat} {ad : jAd} {z n a : Nat} {V : jV} (f x : Int32) (hI : XI n V) (ha : a < n) (hx : x = nI a) (hf : okP 6 f) : jMet l D ca q0 sa ad yX5_reportsFor cX5_reportsFor 3 (some (.object "TideTablePainters$Reports")) 2 0 0 [.ref (ad 0 0), .int f, .int x] (jS z n V) (jRet (some (.ref (ad 11 a))) (jS z n V)) := by
  refine j_enter RX5 [some (.ref (ad 0 0)), some (.int f), some (.int x)] rfl (by decide) (by simp [Value.category]) (Nat.le_of_ble_eq_true rfl) rfl ?_
  intro p e s m args below meth c K hnm hX
  have hn6 := hI.1
  have hl : decide (a < n) = true := decide_eq_true ha
  have ht : LV n 6 a = true := lv_pier ha
  refine j_iload_n K 1 dX5_reportsFor_0 rfl rfl ?_
  refine j_cS1n K dX5_reportsFor_1 m_X5_demandFisherman s_X5_demandFisherman k_X5_144 (c_dF _ hf) (Nat.le_of_ble_eq_true rfl) ⟨by decide, by decide⟩ (by decide) (by decide) ?_
  refine j_aload_n K 0 dX5_reportsFor_4 rfl rfl ?_
  refine j_iload_n K 2 dX5_reportsFor_5 rfl rfl ?_
  refine j_cV1r K dX5_reportsFor_6 m_X5_pierNumbered v_X5_pierNumbered k_X5_95 rfl ⟨by decide, rfl⟩ rfl (c_pN _ hI ha hx) (Nat.le_of_ble_eq_true rfl) ⟨by decide, by decide⟩ (by decide) (by decide) ?_
  refine jGr K 11 a dX5_reportsFor_9 f_X5_69 rfl hl rfl rfl ?_
  refine j_aret K dX5_reportsFor_12 ?_
  exact ⟨rfl, rfl⟩
set_option maxRecDepth 20000 in
set_option maxHeartbeats 400000 in
theorem c_rFx1 {l : Launch} {D : va_G} {ca : Nat → ClassId} {q0 : Nat} {sa : Nat → Nat} {ad : jAd} {z n : Nat} {V : jV} (f x : Int32) (hI : XI n V) (h : ¬ okP 6 f) : jMet l D ca q0 sa ad yX5_reportsFor cX5_reportsFor 3 (some (.object "TideTablePainters$Reports")) 2 1 6 [.ref (ad 0 0), .int f, .int x] (jS z n V) (jExc "java/lang/IndexOutOfBoundsException" (jS z n V)) := by
  refine j_enter RX5 [some (.ref (ad 0 0)), some (.int f), some (.int x)] rfl (by decide) (by simp [Value.category]) (Nat.le_of_ble_eq_true rfl) rfl ?_
  intro p e s m args below meth c K hnm hX
  refine j_iload_n K 1 dX5_reportsFor_0 rfl rfl ?_
  exact j_cS1x K dX5_reportsFor_1 m_X5_demandFisherman s_X5_demandFisherman k_X5_144 (c_dFx _ h) (Nat.le_of_ble_eq_true rfl) ⟨by decide, by decide⟩ (by decide) (by decide) hX (fun _ => ⟨rfl, rfl⟩)
set_option maxRecDepth 20000 in
set_option maxHeartbeats 400000 in
theorem c_rFx2 {l : Launch} {D : va_G} {ca : Nat → ClassId} {q0 : Nat} {sa : Nat → Nat} {ad : jAd} {z n : Nat} {V : jV} (f x : Int32) (hI : XI n V) (hf : okP 6 f) (h : ¬ okP n x) : jMet l D ca q0 sa ad yX5_reportsFor cX5_reportsFor 3 (some (.object "TideTablePainters$Reports")) 2 1 6 [.ref (ad 0 0), .int f, .int x] (jS z n V) (jExc "java/lang/IndexOutOfBoundsException" (jS z n V)) := by
  refine j_enter RX5 [some (.ref (ad 0 0)), some (.int f), some (.int x)] rfl (by decide) (by simp [Value.category]) (Nat.le_of_ble_eq_true rfl) rfl ?_
  intro p e s m args below meth c K hnm hX
  refine j_iload_n K 1 dX5_reportsFor_0 rfl rfl ?_
  refine j_cS1n K dX5_reportsFor_1 m_X5_demandFisherman s_X5_demandFisherman k_X5_144 (c_dF _ hf) (Nat.le_of_ble_eq_true rfl) ⟨by decide, by decide⟩ (by decide) (by decide) ?_
  refine j_aload_n K 0 dX5_reportsFor_4 rfl rfl ?_
  refine j_iload_n K 2 dX5_reportsFor_5 rfl rfl ?_
  exact j_cV1x K dX5_reportsFor_6 m_X5_pierNumbered v_X5_pierNumbered k_X5_95 rfl ⟨by decide, rfl⟩ rfl (c_pNx _ hI h) (Nat.le_of_ble_eq_true rfl) ⟨by decide, by decide⟩ (by decide) (by decide) hX (fun _ => ⟨rfl, rfl⟩)
set_option maxRecDepth 20000 in
set_option maxHeartbeats 400000 in
theorem c_pR {l : Launch} {D : va_G} {ca : Nat → ClassId} {q0 : Nat} {sa : Nat → Nat} {ad : jAd} {z n a c0 g : Nat} {V : jV} (f : Int32) (hl : decide (a < n) = true) (hR : RI V a c0) (hg : fidx (fun j => decide (V 12 a j = f)) c0 = g) (hgc : g < c0) : jMet l D ca q0 sa ad yX5_placeOfReport cX5_placeOfReport 3 (some .int) 1 0 0 [.ref (ad 11 a), .int f] (jS z n V) (jRet (some (.int (nI g))) (jS z n V)) := by
  refine j_enter RX5 [some (.ref (ad 11 a)), some (.int f), none] rfl (by decide) (by simp [Value.category]) (Nat.le_of_ble_eq_true rfl) rfl ?_
  intro p e s m args below meth c K hnm hX
  have h6 := hR.2.1
  have hfr : fres (fun j => decide (V 12 a j = f)) c0 = nI g := by unfold fres; rw [hg, if_pos hgc]
  refine j_aload_n K 0 dX5_placeOfReport_0 rfl rfl ?_
  refine j_iload_n K 1 dX5_placeOfReport_1 rfl rfl ?_
  refine j_cV1r K dX5_placeOfReport_2 m_X2_placeOf v_X2_placeOf k_X5_264 rfl ⟨by decide, rfl⟩ hl (c_X2_placeOf _ hl hR.1 hR.2.1) (Nat.le_of_ble_eq_true rfl) ⟨by decide, by decide⟩ (by decide) (by decide) ?_
  refine j_istore_n K 2 dX5_placeOfReport_5 rfl (by decide) ?_
  refine j_iload_n K 2 dX5_placeOfReport_6 rfl rfl ?_
  refine j_iconst K (-1) dX5_placeOfReport_7 rfl ?_
  refine j_icmp_ne K 22 dX5_placeOfReport_8 (by decide) (fun h_8 => ?_) (fun h_8 => ?_)
  · refine j_iload_n K 2 dX5_placeOfReport_22 rfl rfl ?_
    refine j_iret K dX5_placeOfReport_23 ?_
    rw [hfr]; exact ⟨rfl, rfl⟩
  · exact absurd (hfr.symm.trans h_8) (nI_neg1 (by omega))
set_option maxRecDepth 20000 in
set_option maxHeartbeats 400000 in
theorem c_pRx {l : Launch} {D : va_G} {ca : Nat → ClassId} {q0 : Nat} {sa : Nat → Nat} {ad : jAd} {z n a c0 : Nat} {V : jV} (f : Int32) (hl : decide (a < n) = true) (hR : RI V a c0) (hg : ¬ fidx (fun j => decide (V 12 a j = f)) c0 < c0) : jMet l D ca q0 sa ad yX5_placeOfReport cX5_placeOfReport 3 (some .int) 1 1 6 [.ref (ad 11 a), .int f] (jS z n V) (jExc ns_C (jS z n V)) := by
  refine j_enter RX5 [some (.ref (ad 11 a)), some (.int f), none] rfl (by decide) (by simp [Value.category]) (Nat.le_of_ble_eq_true rfl) rfl ?_
  intro p e s m args below meth c K hnm hX
  have h6 := hR.2.1
  have hfr : fres (fun j => decide (V 12 a j = f)) c0 = -1 := by unfold fres; rw [if_neg hg]
  refine j_aload_n K 0 dX5_placeOfReport_0 rfl rfl ?_
  refine j_iload_n K 1 dX5_placeOfReport_1 rfl rfl ?_
  refine j_cV1r K dX5_placeOfReport_2 m_X2_placeOf v_X2_placeOf k_X5_264 rfl ⟨by decide, rfl⟩ hl (c_X2_placeOf _ hl hR.1 hR.2.1) (Nat.le_of_ble_eq_true rfl) ⟨by decide, by decide⟩ (by decide) (by decide) ?_
  refine j_istore_n K 2 dX5_placeOfReport_5 rfl (by decide) ?_
  refine j_iload_n K 2 dX5_placeOfReport_6 rfl rfl ?_
  refine j_iconst K (-1) dX5_placeOfReport_7 rfl ?_
  refine j_icmp_ne K 22 dX5_placeOfReport_8 (by decide) (fun h_8 => ?_) (fun h_8 => ?_)
  · exact absurd hfr h_8
  · exact j_throwNW (text := "no such report") K hX thr_NSE (by decide +kernel) dX5_placeOfReport_11 dX5_placeOfReport_14 dX5_placeOfReport_15 dX5_placeOfReport_18 dX5_placeOfReport_21 (by decide) (by decide) (Nat.le_of_ble_eq_true rfl) (fun _ => ⟨rfl, rfl⟩)
set_option maxRecDepth 20000 in
set_option maxHeartbeats 400000 in
theorem c_tO0 {l : Launch} {D : va_G} {ca : Nat → ClassId} {q0 : Nat} {sa : Nat → Nat} {ad : jAd} {z n : Nat} {V : jV} : jMet l D ca q0 sa ad yX5_tinsOf cX5_tinsOf 2 (some (.object "TideTablePainters$Tins")) 1 0 0 [.ref (ad 0 0), .int 0] (jS z n V) (jRet (some (.ref (ad 4 0))) (jS z n V)) := by
  refine j_enter RX5 [some (.ref (ad 0 0)), some (.int 0)] rfl (by decide) (by simp [Value.category]) (Nat.le_of_ble_eq_true rfl) rfl ?_
  intro p e s m args below meth c K hnm hX
  refine j_iload_n K 1 dX5_tinsOf_0 rfl rfl ?_
  refine j_iconst K 0 dX5_tinsOf_1 rfl ?_
  refine j_iconst K 1 dX5_tinsOf_2 rfl ?_
  refine j_cS3n K dX5_tinsOf_3 m_X5_demandWithin s_X5_demandWithin k_X5_55 (c_dW _ _ _ (by decide)) (Nat.le_of_ble_eq_true rfl) ⟨by decide, by decide⟩ (by decide) (by decide) ?_
  refine j_iload_n K 1 dX5_tinsOf_6 rfl rfl ?_
  refine j_if_ne K 17 dX5_tinsOf_7 (by decide) (fun h_7 => absurd (by decide) h_7) (fun h_7 => ?_)
  refine j_aload_n K 0 dX5_tinsOf_10 rfl rfl ?_
  refine jGr K 4 0 dX5_tinsOf_11 f_X5_29 rfl rfl rfl rfl ?_
  refine j_goto K 21 dX5_tinsOf_14 (by decide) ?_
  refine j_aret K dX5_tinsOf_21 ?_
  exact ⟨rfl, rfl⟩
set_option maxRecDepth 20000 in
set_option maxHeartbeats 400000 in
theorem c_tO1 {l : Launch} {D : va_G} {ca : Nat → ClassId} {q0 : Nat} {sa : Nat → Nat} {ad : jAd} {z n : Nat} {V : jV} : jMet l D ca q0 sa ad yX5_tinsOf cX5_tinsOf 2 (some (.object "TideTablePainters$Tins")) 1 0 0 [.ref (ad 0 0), .int 1] (jS z n V) (jRet (some (.ref (ad 4 1))) (jS z n V)) := by
  refine j_enter RX5 [some (.ref (ad 0 0)), some (.int 1)] rfl (by decide) (by simp [Value.category]) (Nat.le_of_ble_eq_true rfl) rfl ?_
  intro p e s m args below meth c K hnm hX
  refine j_iload_n K 1 dX5_tinsOf_0 rfl rfl ?_
  refine j_iconst K 0 dX5_tinsOf_1 rfl ?_
  refine j_iconst K 1 dX5_tinsOf_2 rfl ?_
  refine j_cS3n K dX5_tinsOf_3 m_X5_demandWithin s_X5_demandWithin k_X5_55 (c_dW _ _ _ (by decide)) (Nat.le_of_ble_eq_true rfl) ⟨by decide, by decide⟩ (by decide) (by decide) ?_
  refine j_iload_n K 1 dX5_tinsOf_6 rfl rfl ?_
  refine j_if_ne K 17 dX5_tinsOf_7 (by decide) (fun h_7 => ?_) (fun h_7 => absurd h_7 (by decide))
  refine j_aload_n K 0 dX5_tinsOf_17 rfl rfl ?_
  refine jGr K 4 1 dX5_tinsOf_18 f_X5_33 rfl rfl rfl rfl ?_
  refine j_aret K dX5_tinsOf_21 ?_
  exact ⟨rfl, rfl⟩
set_option maxRecDepth 20000 in
set_option maxHeartbeats 400000 in
theorem c_tOx {l : Launch} {D : va_G} {ca : Nat → ClassId} {q0 : Nat} {sa : Nat → Nat} {ad : jAd} {z n : Nat} {V : jV} (x : Int32) (h : ¬ (0 ≤ x ∧ x ≤ 1)) : jMet l D ca q0 sa ad yX5_tinsOf cX5_tinsOf 2 (some (.object "TideTablePainters$Tins")) 1 1 6 [.ref (ad 0 0), .int x] (jS z n V) (jExc "java/lang/IllegalArgumentException" (jS z n V)) := by
  refine j_enter RX5 [some (.ref (ad 0 0)), some (.int x)] rfl (by decide) (by simp [Value.category]) (Nat.le_of_ble_eq_true rfl) rfl ?_
  intro p e s m args below meth c K hnm hX
  refine j_iload_n K 1 dX5_tinsOf_0 rfl rfl ?_
  refine j_iconst K 0 dX5_tinsOf_1 rfl ?_
  refine j_iconst K 1 dX5_tinsOf_2 rfl ?_
  exact j_cS3x K dX5_tinsOf_3 m_X5_demandWithin s_X5_demandWithin k_X5_55 (c_dWx _ _ _ h) (Nat.le_of_ble_eq_true rfl) ⟨by decide, by decide⟩ (by decide) (by decide) hX (fun _ => ⟨rfl, rfl⟩)
set_option maxRecDepth 20000 in
set_option maxHeartbeats 400000 in
theorem c_tL0 {l : Launch} {D : va_G} {ca : Nat → ClassId} {q0 : Nat} {sa : Nat → Nat} {ad : jAd} {z n a j : Nat} {V : jV} (x : Int32) (hl : decide (a < n) = true) (ht : LV n 6 a = true) (hx : x = nI j) (hj : j < 4) (h9 : ¬ V 9 a j = 0) : jMet l D ca q0 sa ad yX5_tinsForLine cX5_tinsForLine 3 (some (.object "TideTablePainters$Tins")) 0 0 0 [.ref (ad 0 0), .ref (ad 15 a), .int x] (jS z n V) (jRet (some (.ref (ad 4 0))) (jS z n V)) := by
  refine j_enter RX5 [some (.ref (ad 0 0)), some (.ref (ad 15 a)), some (.int x)] rfl (by decide) (by simp [Value.category]) (Nat.le_of_ble_eq_true rfl) rfl ?_
  intro p e s m args below meth c K hnm hX
  refine j_aload_n K 1 dX5_tinsForLine_0 rfl rfl ?_
  refine jGr K 6 a dX5_tinsForLine_1 f_X5_228 rfl hl rfl rfl ?_
  refine jGr K 9 a dX5_tinsForLine_4 f_X5_118 rfl ht rfl rfl ?_
  refine j_iload_n K 2 dX5_tinsForLine_7 rfl rfl ?_
  refine jZald K (j) dX5_tinsForLine_8 rfl ht hx (by omega) ?_
  refine j_if_eq K 19 dX5_tinsForLine_9 (by decide) (fun h_9 => ?_) (fun h_9 => ?_)
  · exact absurd h_9 h9
  · refine j_aload_n K 0 dX5_tinsForLine_12 rfl rfl ?_
    refine jGr K 4 0 dX5_tinsForLine_13 f_X5_29 rfl rfl rfl rfl ?_
    refine j_goto K 23 dX5_tinsForLine_16 (by decide) ?_
    refine j_aret K dX5_tinsForLine_23 ?_
    exact ⟨rfl, rfl⟩
set_option maxRecDepth 20000 in
set_option maxHeartbeats 400000 in
theorem c_tL1 {l : Launch} {D : va_G} {ca : Nat → ClassId} {q0 : Nat} {sa : Nat → Nat} {ad : jAd} {z n a j : Nat} {V : jV} (x : Int32) (hl : decide (a < n) = true) (ht : LV n 6 a = true) (hx : x = nI j) (hj : j < 4) (h9 : V 9 a j = 0) : jMet l D ca q0 sa ad yX5_tinsForLine cX5_tinsForLine 3 (some (.object "TideTablePainters$Tins")) 0 0 0 [.ref (ad 0 0), .ref (ad 15 a), .int x] (jS z n V) (jRet (some (.ref (ad 4 1))) (jS z n V)) := by
  refine j_enter RX5 [some (.ref (ad 0 0)), some (.ref (ad 15 a)), some (.int x)] rfl (by decide) (by simp [Value.category]) (Nat.le_of_ble_eq_true rfl) rfl ?_
  intro p e s m args below meth c K hnm hX
  refine j_aload_n K 1 dX5_tinsForLine_0 rfl rfl ?_
  refine jGr K 6 a dX5_tinsForLine_1 f_X5_228 rfl hl rfl rfl ?_
  refine jGr K 9 a dX5_tinsForLine_4 f_X5_118 rfl ht rfl rfl ?_
  refine j_iload_n K 2 dX5_tinsForLine_7 rfl rfl ?_
  refine jZald K (j) dX5_tinsForLine_8 rfl ht hx (by omega) ?_
  refine j_if_eq K 19 dX5_tinsForLine_9 (by decide) (fun h_9 => ?_) (fun h_9 => ?_)
  · refine j_aload_n K 0 dX5_tinsForLine_19 rfl rfl ?_
    refine jGr K 4 1 dX5_tinsForLine_20 f_X5_33 rfl rfl rfl rfl ?_
    refine j_aret K dX5_tinsForLine_23 ?_
    exact ⟨rfl, rfl⟩
  · exact absurd h9 h_9
set_option maxRecDepth 20000 in
set_option maxHeartbeats 400000 in
theorem c_bL {l : Launch} {D : va_G} {ca : Nat → ClassId} {q0 : Nat} {sa : Nat → Nat} {ad : jAd} {z n a : Nat} {V : jV} (x y : Int32) (hI : XI n V) (ha : a < n) (hx : x = nI a) (hy : okP (tn (V 6 a 3)) y) : jMet l D ca q0 sa ad yX5_boardWithLine cX5_boardWithLine 4 (some (.object "TideTablePainters$Board")) 2 0 0 [.ref (ad 0 0), .int x, .int y] (jS z n V) (jRet (some (.ref (ad 15 a))) (jS z n V)) := by
  refine j_enter RX5 [some (.ref (ad 0 0)), some (.int x), some (.int y), none] rfl (by decide) (by simp [Value.category]) (Nat.le_of_ble_eq_true rfl) rfl ?_
  intro p e s m args below meth c K hnm hX
  have hn6 := hI.1
  have hl : decide (a < n) = true := decide_eq_true ha
  have ht : LV n 6 a = true := lv_pier ha
  have hw := hI.2.2.2.1 a ha
  obtain ⟨hw, hw4⟩ := hw
  refine j_aload_n K 0 dX5_boardWithLine_0 rfl rfl ?_
  refine j_iload_n K 1 dX5_boardWithLine_1 rfl rfl ?_
  refine j_cV1r K dX5_boardWithLine_2 m_X5_pierNumbered v_X5_pierNumbered k_X5_95 rfl ⟨by decide, rfl⟩ rfl (c_pN _ hI ha hx) (Nat.le_of_ble_eq_true rfl) ⟨by decide, by decide⟩ (by decide) (by decide) ?_
  refine jGr K 15 a dX5_boardWithLine_5 f_X5_79 rfl hl rfl rfl ?_
  refine j_astore_n K 3 dX5_boardWithLine_8 rfl (by decide) ?_
  refine j_iload_n K 2 dX5_boardWithLine_9 rfl rfl ?_
  refine j_if_lt K 24 dX5_boardWithLine_10 (by decide) (fun h_10 => ?_) (fun h_10 => ?_)
  · obtain ⟨f, hf, rfl⟩ := hy
    exact absurd h_10 (nI_pos (by omega))
  · refine j_iload_n K 2 dX5_boardWithLine_13 rfl rfl ?_
    refine j_aload_n K 3 dX5_boardWithLine_14 rfl rfl ?_
    refine jGr K 6 a dX5_boardWithLine_15 f_X5_228 rfl hl rfl rfl ?_
    refine jGi K dX5_boardWithLine_18 f_X5_106 rfl ht rfl ?_
    refine j_icmp_lt K 35 dX5_boardWithLine_21 (by decide) (fun h_21 => ?_) (fun h_21 => ?_)
    · refine j_aload_n K 3 dX5_boardWithLine_35 rfl rfl ?_
      refine j_aret K dX5_boardWithLine_36 ?_
      exact ⟨rfl, rfl⟩
    · obtain ⟨f, hf, rfl⟩ := hy
      exact absurd ((nlt (by omega) (by omega) rfl hw).mpr hf) h_21
set_option maxRecDepth 20000 in
set_option maxHeartbeats 400000 in
theorem c_bLx1 {l : Launch} {D : va_G} {ca : Nat → ClassId} {q0 : Nat} {sa : Nat → Nat} {ad : jAd} {z n : Nat} {V : jV} (x y : Int32) (hI : XI n V) (h : ¬ okP n x) : jMet l D ca q0 sa ad yX5_boardWithLine cX5_boardWithLine 4 (some (.object "TideTablePainters$Board")) 2 1 6 [.ref (ad 0 0), .int x, .int y] (jS z n V) (jExc "java/lang/IndexOutOfBoundsException" (jS z n V)) := by
  refine j_enter RX5 [some (.ref (ad 0 0)), some (.int x), some (.int y), none] rfl (by decide) (by simp [Value.category]) (Nat.le_of_ble_eq_true rfl) rfl ?_
  intro p e s m args below meth c K hnm hX
  refine j_aload_n K 0 dX5_boardWithLine_0 rfl rfl ?_
  refine j_iload_n K 1 dX5_boardWithLine_1 rfl rfl ?_
  exact j_cV1x K dX5_boardWithLine_2 m_X5_pierNumbered v_X5_pierNumbered k_X5_95 rfl ⟨by decide, rfl⟩ rfl (c_pNx _ hI h) (Nat.le_of_ble_eq_true rfl) ⟨by decide, by decide⟩ (by decide) (by decide) hX (fun _ => ⟨rfl, rfl⟩)
set_option maxRecDepth 20000 in
set_option maxHeartbeats 400000 in
theorem c_bLx2 {l : Launch} {D : va_G} {ca : Nat → ClassId} {q0 : Nat} {sa : Nat → Nat} {ad : jAd} {z n a : Nat} {V : jV} (x y : Int32) (hI : XI n V) (ha : a < n) (hx : x = nI a) (h : ¬ okP (tn (V 6 a 3)) y) : jMet l D ca q0 sa ad yX5_boardWithLine cX5_boardWithLine 4 (some (.object "TideTablePainters$Board")) 2 1 6 [.ref (ad 0 0), .int x, .int y] (jS z n V) (jExc "java/lang/IndexOutOfBoundsException" (jS z n V)) := by
  refine j_enter RX5 [some (.ref (ad 0 0)), some (.int x), some (.int y), none] rfl (by decide) (by simp [Value.category]) (Nat.le_of_ble_eq_true rfl) rfl ?_
  intro p e s m args below meth c K hnm hX
  have hn6 := hI.1
  have hl : decide (a < n) = true := decide_eq_true ha
  have ht : LV n 6 a = true := lv_pier ha
  have hw := hI.2.2.2.1 a ha
  obtain ⟨hw, hw4⟩ := hw
  refine j_aload_n K 0 dX5_boardWithLine_0 rfl rfl ?_
  refine j_iload_n K 1 dX5_boardWithLine_1 rfl rfl ?_
  refine j_cV1r K dX5_boardWithLine_2 m_X5_pierNumbered v_X5_pierNumbered k_X5_95 rfl ⟨by decide, rfl⟩ rfl (c_pN _ hI ha hx) (Nat.le_of_ble_eq_true rfl) ⟨by decide, by decide⟩ (by decide) (by decide) ?_
  refine jGr K 15 a dX5_boardWithLine_5 f_X5_79 rfl hl rfl rfl ?_
  refine j_astore_n K 3 dX5_boardWithLine_8 rfl (by decide) ?_
  refine j_iload_n K 2 dX5_boardWithLine_9 rfl rfl ?_
  refine j_if_lt K 24 dX5_boardWithLine_10 (by decide) (fun h_10 => ?_) (fun h_10 => ?_)
  · exact j_throwW (text := "no such line") K hX thr_IOB (by decide +kernel) dX5_boardWithLine_24 dX5_boardWithLine_27 dX5_boardWithLine_28 dX5_boardWithLine_31 dX5_boardWithLine_34 (by decide) (by decide) (Nat.le_of_ble_eq_true rfl) (fun _ => ⟨rfl, rfl⟩)
  · refine j_iload_n K 2 dX5_boardWithLine_13 rfl rfl ?_
    refine j_aload_n K 3 dX5_boardWithLine_14 rfl rfl ?_
    refine jGr K 6 a dX5_boardWithLine_15 f_X5_228 rfl hl rfl rfl ?_
    refine jGi K dX5_boardWithLine_18 f_X5_106 rfl ht rfl ?_
    refine j_icmp_lt K 35 dX5_boardWithLine_21 (by decide) (fun h_21 => ?_) (fun h_21 => ?_)
    · exact absurd (okP_of (by omega) hw h_10 h_21) h
    · exact j_throwW (text := "no such line") K hX thr_IOB (by decide +kernel) dX5_boardWithLine_24 dX5_boardWithLine_27 dX5_boardWithLine_28 dX5_boardWithLine_31 dX5_boardWithLine_34 (by decide) (by decide) (Nat.le_of_ble_eq_true rfl) (fun _ => ⟨rfl, rfl⟩)
set_option maxRecDepth 20000 in
set_option maxHeartbeats 400000 in
theorem c_bP {l : Launch} {D : va_G} {ca : Nat → ClassId} {q0 : Nat} {sa : Nat → Nat} {ad : jAd} {z n a j : Nat} {V : jV} (x y : Int32) (hI : XI n V) (ha : a < n) (hx : x = nI a) (hy : y = nI j) (hj : j < (tn (V 6 a 3))) (hs : ¬ V 16 a j = 0) : jMet l D ca q0 sa ad yX5_boardWithPaintedLine cX5_boardWithPaintedLine 4 (some (.object "TideTablePainters$Board")) 3 0 0 [.ref (ad 0 0), .int x, .int y] (jS z n V) (jRet (some (.ref (ad 15 a))) (jS z n V)) := by
  refine j_enter RX5 [some (.ref (ad 0 0)), some (.int x), some (.int y), none] rfl (by decide) (by simp [Value.category]) (Nat.le_of_ble_eq_true rfl) rfl ?_
  intro p e s m args below meth c K hnm hX
  have hn6 := hI.1
  have hl : decide (a < n) = true := decide_eq_true ha
  have ht : LV n 6 a = true := lv_pier ha
  have hw := hI.2.2.2.1 a ha
  obtain ⟨hw, hw4⟩ := hw
  refine j_aload_n K 0 dX5_boardWithPaintedLine_0 rfl rfl ?_
  refine j_iload_n K 1 dX5_boardWithPaintedLine_1 rfl rfl ?_
  refine j_iload_n K 2 dX5_boardWithPaintedLine_2 rfl rfl ?_
  refine j_cV2r K dX5_boardWithPaintedLine_3 m_X5_boardWithLine v_X5_boardWithLine k_X5_231 rfl ⟨by decide, rfl⟩ rfl (c_bL _ _ hI ha hx ⟨j, hj, hy⟩) (Nat.le_of_ble_eq_true rfl) ⟨by decide, by decide⟩ (by decide) (by decide) ?_
  refine j_astore_n K 3 dX5_boardWithPaintedLine_6 rfl (by decide) ?_
  refine j_aload_n K 3 dX5_boardWithPaintedLine_7 rfl rfl ?_
  refine jGr K 16 a dX5_boardWithPaintedLine_8 f_X5_235 rfl hl rfl rfl ?_
  refine j_iload_n K 2 dX5_boardWithPaintedLine_11 rfl rfl ?_
  refine jIald K (j) dX5_boardWithPaintedLine_12 rfl hl hy (by omega) ?_
  refine j_if_ne K 27 dX5_boardWithPaintedLine_13 (by decide) (fun h_13 => ?_) (fun h_13 => ?_)
  · refine j_aload_n K 3 dX5_boardWithPaintedLine_27 rfl rfl ?_
    refine j_aret K dX5_boardWithPaintedLine_28 ?_
    exact ⟨rfl, rfl⟩
  · exact absurd h_13 hs
set_option maxRecDepth 20000 in
set_option maxHeartbeats 400000 in
theorem c_bPx3 {l : Launch} {D : va_G} {ca : Nat → ClassId} {q0 : Nat} {sa : Nat → Nat} {ad : jAd} {z n a j : Nat} {V : jV} (x y : Int32) (hI : XI n V) (ha : a < n) (hx : x = nI a) (hy : y = nI j) (hj : j < (tn (V 6 a 3))) (hs : V 16 a j = 0) : jMet l D ca q0 sa ad yX5_boardWithPaintedLine cX5_boardWithPaintedLine 4 (some (.object "TideTablePainters$Board")) 3 1 6 [.ref (ad 0 0), .int x, .int y] (jS z n V) (jExc ns_C (jS z n V)) := by
  refine j_enter RX5 [some (.ref (ad 0 0)), some (.int x), some (.int y), none] rfl (by decide) (by simp [Value.category]) (Nat.le_of_ble_eq_true rfl) rfl ?_
  intro p e s m args below meth c K hnm hX
  have hn6 := hI.1
  have hl : decide (a < n) = true := decide_eq_true ha
  have ht : LV n 6 a = true := lv_pier ha
  have hw := hI.2.2.2.1 a ha
  obtain ⟨hw, hw4⟩ := hw
  refine j_aload_n K 0 dX5_boardWithPaintedLine_0 rfl rfl ?_
  refine j_iload_n K 1 dX5_boardWithPaintedLine_1 rfl rfl ?_
  refine j_iload_n K 2 dX5_boardWithPaintedLine_2 rfl rfl ?_
  refine j_cV2r K dX5_boardWithPaintedLine_3 m_X5_boardWithLine v_X5_boardWithLine k_X5_231 rfl ⟨by decide, rfl⟩ rfl (c_bL _ _ hI ha hx ⟨j, hj, hy⟩) (Nat.le_of_ble_eq_true rfl) ⟨by decide, by decide⟩ (by decide) (by decide) ?_
  refine j_astore_n K 3 dX5_boardWithPaintedLine_6 rfl (by decide) ?_
  refine j_aload_n K 3 dX5_boardWithPaintedLine_7 rfl rfl ?_
  refine jGr K 16 a dX5_boardWithPaintedLine_8 f_X5_235 rfl hl rfl rfl ?_
  refine j_iload_n K 2 dX5_boardWithPaintedLine_11 rfl rfl ?_
  refine jIald K (j) dX5_boardWithPaintedLine_12 rfl hl hy (by omega) ?_
  refine j_if_ne K 27 dX5_boardWithPaintedLine_13 (by decide) (fun h_13 => ?_) (fun h_13 => ?_)
  · exact absurd hs h_13
  · exact j_throwNW (text := "the line is blank") K hX thr_NSE (by decide +kernel) dX5_boardWithPaintedLine_16 dX5_boardWithPaintedLine_19 dX5_boardWithPaintedLine_20 dX5_boardWithPaintedLine_23 dX5_boardWithPaintedLine_26 (by decide) (by decide) (Nat.le_of_ble_eq_true rfl) (fun _ => ⟨rfl, rfl⟩)
set_option maxRecDepth 20000 in
set_option maxHeartbeats 400000 in
theorem c_bPx1 {l : Launch} {D : va_G} {ca : Nat → ClassId} {q0 : Nat} {sa : Nat → Nat} {ad : jAd} {z n : Nat} {V : jV} (x y : Int32) (hI : XI n V) (h : ¬ okP n x) : jMet l D ca q0 sa ad yX5_boardWithPaintedLine cX5_boardWithPaintedLine 4 (some (.object "TideTablePainters$Board")) 3 1 6 [.ref (ad 0 0), .int x, .int y] (jS z n V) (jExc "java/lang/IndexOutOfBoundsException" (jS z n V)) := by
  refine j_enter RX5 [some (.ref (ad 0 0)), some (.int x), some (.int y), none] rfl (by decide) (by simp [Value.category]) (Nat.le_of_ble_eq_true rfl) rfl ?_
  intro p e s m args below meth c K hnm hX
  refine j_aload_n K 0 dX5_boardWithPaintedLine_0 rfl rfl ?_
  refine j_iload_n K 1 dX5_boardWithPaintedLine_1 rfl rfl ?_
  refine j_iload_n K 2 dX5_boardWithPaintedLine_2 rfl rfl ?_
  exact j_cV2x K dX5_boardWithPaintedLine_3 m_X5_boardWithLine v_X5_boardWithLine k_X5_231 rfl ⟨by decide, rfl⟩ rfl (c_bLx1 _ _ hI h) (Nat.le_of_ble_eq_true rfl) ⟨by decide, by decide⟩ (by decide) (by decide) hX (fun _ => ⟨rfl, rfl⟩)
set_option maxRecDepth 20000 in
set_option maxHeartbeats 400000 in
theorem c_bPx2 {l : Launch} {D : va_G} {ca : Nat → ClassId} {q0 : Nat} {sa : Nat → Nat} {ad : jAd} {z n a : Nat} {V : jV} (x y : Int32) (hI : XI n V) (ha : a < n) (hx : x = nI a) (h : ¬ okP (tn (V 6 a 3)) y) : jMet l D ca q0 sa ad yX5_boardWithPaintedLine cX5_boardWithPaintedLine 4 (some (.object "TideTablePainters$Board")) 3 1 6 [.ref (ad 0 0), .int x, .int y] (jS z n V) (jExc "java/lang/IndexOutOfBoundsException" (jS z n V)) := by
  refine j_enter RX5 [some (.ref (ad 0 0)), some (.int x), some (.int y), none] rfl (by decide) (by simp [Value.category]) (Nat.le_of_ble_eq_true rfl) rfl ?_
  intro p e s m args below meth c K hnm hX
  refine j_aload_n K 0 dX5_boardWithPaintedLine_0 rfl rfl ?_
  refine j_iload_n K 1 dX5_boardWithPaintedLine_1 rfl rfl ?_
  refine j_iload_n K 2 dX5_boardWithPaintedLine_2 rfl rfl ?_
  exact j_cV2x K dX5_boardWithPaintedLine_3 m_X5_boardWithLine v_X5_boardWithLine k_X5_231 rfl ⟨by decide, rfl⟩ rfl (c_bLx2 _ _ hI ha hx h) (Nat.le_of_ble_eq_true rfl) ⟨by decide, by decide⟩ (by decide) (by decide) hX (fun _ => ⟨rfl, rfl⟩)
set_option maxRecDepth 20000 in
set_option maxHeartbeats 400000 in
theorem c_fT {l : Launch} {D : va_G} {ca : Nat → ClassId} {q0 : Nat} {sa : Nat → Nat} {ad : jAd} {z n a : Nat} {V : jV} (x d y : Int32) (hI : XI n V) (ha : a < n) (hx : x = nI a) (hd : 0 ≤ d ∧ d ≤ 99999) (hy : okP (wcnt (w0m (mthX V a (tn (V 11 a 3)) d 0)) (w0h (mthX V a (tn (V 11 a 3)) d 0))) y) : jMet l D ca q0 sa ad yX5_fillTableWithWater cX5_fillTableWithWater 4 none 3 0 0 [.ref (ad 0 0), .int x, .int d, .int y] (jS z n V) (jRet none (jS z n (filV V 6 a (tn (V 11 a 3)) d))) := by
  refine j_enter RX5 [some (.ref (ad 0 0)), some (.int x), some (.int d), some (.int y)] rfl (by decide) (by simp [Value.category]) (Nat.le_of_ble_eq_true rfl) rfl ?_
  intro p e s m args below meth c K hnm hX
  have hn6 := hI.1
  have hl : decide (a < n) = true := decide_eq_true ha
  have ht : LV n 6 a = true := lv_pier ha
  have hwl := fidx_le (fun j => !decide ((wst (w0m (mthX V a (tn (V 11 a 3)) d 0)) (w0h (mthX V a (tn (V 11 a 3)) d 0)) j).1 < 1440)) 4
  have hwc : (wcnt (w0m (mthX V a (tn (V 11 a 3)) d 0)) (w0h (mthX V a (tn (V 11 a 3)) d 0))) ≤ 4 := hwl
  have htc : (filV V 6 a (tn (V 11 a 3)) d) 6 6 3 = nI (wcnt (w0m (mthX V a (tn (V 11 a 3)) d 0)) (w0h (mthX V a (tn (V 11 a 3)) d 0))) := tab_cnt
  refine j_iload_n K 2 dX5_fillTableWithWater_0 rfl rfl ?_
  refine j_cS1n K dX5_fillTableWithWater_1 m_X5_demandDay s_X5_demandDay k_X5_88 (c_dD _ hd) (Nat.le_of_ble_eq_true rfl) ⟨by decide, by decide⟩ (by decide) (by decide) ?_
  refine j_aload_n K 0 dX5_fillTableWithWater_4 rfl rfl ?_
  refine jGr K 6 6 dX5_fillTableWithWater_5 f_X5_39 rfl rfl rfl rfl ?_
  refine j_aload_n K 0 dX5_fillTableWithWater_8 rfl rfl ?_
  refine j_iload_n K 1 dX5_fillTableWithWater_9 rfl rfl ?_
  refine j_cV1r K dX5_fillTableWithWater_10 m_X5_pierNumbered v_X5_pierNumbered k_X5_95 rfl ⟨by decide, rfl⟩ rfl (c_pN _ hI ha hx) (Nat.le_of_ble_eq_true rfl) ⟨by decide, by decide⟩ (by decide) (by decide) ?_
  refine j_iload_n K 2 dX5_fillTableWithWater_13 rfl rfl ?_
  refine j_cV2n K dX5_fillTableWithWater_14 m_X3_fill v_X3_fill k_X5_102 rfl ⟨by decide, rfl⟩ (lvt6 n) (c_X3_fill _ hl (lvt6 n) (hI.2.2.1 a ha)) (Nat.le_of_ble_eq_true rfl) ⟨by decide, by decide⟩ (by decide) (by decide) ?_
  refine j_iload_n K 3 dX5_fillTableWithWater_17 rfl rfl ?_
  refine j_if_lt K 32 dX5_fillTableWithWater_18 (by decide) (fun h_18 => ?_) (fun h_18 => ?_)
  · obtain ⟨f, hf, rfl⟩ := hy
    exact absurd h_18 (nI_pos (by omega))
  · refine j_iload_n K 3 dX5_fillTableWithWater_21 rfl rfl ?_
    refine j_aload_n K 0 dX5_fillTableWithWater_22 rfl rfl ?_
    refine jGr K 6 6 dX5_fillTableWithWater_23 f_X5_39 rfl rfl rfl rfl ?_
    refine jGi K dX5_fillTableWithWater_26 f_X5_106 rfl (lvt6 n) rfl ?_
    refine j_icmp_lt K 43 dX5_fillTableWithWater_29 (by decide) (fun h_29 => ?_) (fun h_29 => ?_)
    · refine j_vret K dX5_fillTableWithWater_43 ?_
      exact ⟨rfl, rfl⟩
    · obtain ⟨f, hf, rfl⟩ := hy
      exact absurd ((nlt (by omega) (by omega) rfl htc).mpr hf) h_29
set_option maxRecDepth 20000 in
set_option maxHeartbeats 400000 in
theorem c_fTx3 {l : Launch} {D : va_G} {ca : Nat → ClassId} {q0 : Nat} {sa : Nat → Nat} {ad : jAd} {z n a : Nat} {V : jV} (x d y : Int32) (hI : XI n V) (ha : a < n) (hx : x = nI a) (hd : 0 ≤ d ∧ d ≤ 99999) (h : ¬ okP (wcnt (w0m (mthX V a (tn (V 11 a 3)) d 0)) (w0h (mthX V a (tn (V 11 a 3)) d 0))) y) : jMet l D ca q0 sa ad yX5_fillTableWithWater cX5_fillTableWithWater 4 none 3 1 6 [.ref (ad 0 0), .int x, .int d, .int y] (jS z n V) (jExc "java/lang/IndexOutOfBoundsException" (jS z n (filV V 6 a (tn (V 11 a 3)) d))) := by
  refine j_enter RX5 [some (.ref (ad 0 0)), some (.int x), some (.int d), some (.int y)] rfl (by decide) (by simp [Value.category]) (Nat.le_of_ble_eq_true rfl) rfl ?_
  intro p e s m args below meth c K hnm hX
  have hn6 := hI.1
  have hl : decide (a < n) = true := decide_eq_true ha
  have ht : LV n 6 a = true := lv_pier ha
  have hwl := fidx_le (fun j => !decide ((wst (w0m (mthX V a (tn (V 11 a 3)) d 0)) (w0h (mthX V a (tn (V 11 a 3)) d 0)) j).1 < 1440)) 4
  have hwc : (wcnt (w0m (mthX V a (tn (V 11 a 3)) d 0)) (w0h (mthX V a (tn (V 11 a 3)) d 0))) ≤ 4 := hwl
  have htc : (filV V 6 a (tn (V 11 a 3)) d) 6 6 3 = nI (wcnt (w0m (mthX V a (tn (V 11 a 3)) d 0)) (w0h (mthX V a (tn (V 11 a 3)) d 0))) := tab_cnt
  refine j_iload_n K 2 dX5_fillTableWithWater_0 rfl rfl ?_
  refine j_cS1n K dX5_fillTableWithWater_1 m_X5_demandDay s_X5_demandDay k_X5_88 (c_dD _ hd) (Nat.le_of_ble_eq_true rfl) ⟨by decide, by decide⟩ (by decide) (by decide) ?_
  refine j_aload_n K 0 dX5_fillTableWithWater_4 rfl rfl ?_
  refine jGr K 6 6 dX5_fillTableWithWater_5 f_X5_39 rfl rfl rfl rfl ?_
  refine j_aload_n K 0 dX5_fillTableWithWater_8 rfl rfl ?_
  refine j_iload_n K 1 dX5_fillTableWithWater_9 rfl rfl ?_
  refine j_cV1r K dX5_fillTableWithWater_10 m_X5_pierNumbered v_X5_pierNumbered k_X5_95 rfl ⟨by decide, rfl⟩ rfl (c_pN _ hI ha hx) (Nat.le_of_ble_eq_true rfl) ⟨by decide, by decide⟩ (by decide) (by decide) ?_
  refine j_iload_n K 2 dX5_fillTableWithWater_13 rfl rfl ?_
  refine j_cV2n K dX5_fillTableWithWater_14 m_X3_fill v_X3_fill k_X5_102 rfl ⟨by decide, rfl⟩ (lvt6 n) (c_X3_fill _ hl (lvt6 n) (hI.2.2.1 a ha)) (Nat.le_of_ble_eq_true rfl) ⟨by decide, by decide⟩ (by decide) (by decide) ?_
  refine j_iload_n K 3 dX5_fillTableWithWater_17 rfl rfl ?_
  refine j_if_lt K 32 dX5_fillTableWithWater_18 (by decide) (fun h_18 => ?_) (fun h_18 => ?_)
  · exact j_throwW (text := "no such water") K hX thr_IOB (by decide +kernel) dX5_fillTableWithWater_32 dX5_fillTableWithWater_35 dX5_fillTableWithWater_36 dX5_fillTableWithWater_39 dX5_fillTableWithWater_42 (by decide) (by decide) (Nat.le_of_ble_eq_true rfl) (fun _ => ⟨rfl, rfl⟩)
  · refine j_iload_n K 3 dX5_fillTableWithWater_21 rfl rfl ?_
    refine j_aload_n K 0 dX5_fillTableWithWater_22 rfl rfl ?_
    refine jGr K 6 6 dX5_fillTableWithWater_23 f_X5_39 rfl rfl rfl rfl ?_
    refine jGi K dX5_fillTableWithWater_26 f_X5_106 rfl (lvt6 n) rfl ?_
    refine j_icmp_lt K 43 dX5_fillTableWithWater_29 (by decide) (fun h_29 => ?_) (fun h_29 => ?_)
    · exact absurd (okP_of (by omega) htc h_18 h_29) h
    · exact j_throwW (text := "no such water") K hX thr_IOB (by decide +kernel) dX5_fillTableWithWater_32 dX5_fillTableWithWater_35 dX5_fillTableWithWater_36 dX5_fillTableWithWater_39 dX5_fillTableWithWater_42 (by decide) (by decide) (Nat.le_of_ble_eq_true rfl) (fun _ => ⟨rfl, rfl⟩)
set_option maxRecDepth 20000 in
set_option maxHeartbeats 400000 in
theorem c_fTx1 {l : Launch} {D : va_G} {ca : Nat → ClassId} {q0 : Nat} {sa : Nat → Nat} {ad : jAd} {z n : Nat} {V : jV} (x d y : Int32) (hI : XI n V) (h : ¬ (0 ≤ d ∧ d ≤ 99999)) : jMet l D ca q0 sa ad yX5_fillTableWithWater cX5_fillTableWithWater 4 none 3 1 6 [.ref (ad 0 0), .int x, .int d, .int y] (jS z n V) (jExc "java/lang/IllegalArgumentException" (jS z n V)) := by
  refine j_enter RX5 [some (.ref (ad 0 0)), some (.int x), some (.int d), some (.int y)] rfl (by decide) (by simp [Value.category]) (Nat.le_of_ble_eq_true rfl) rfl ?_
  intro p e s m args below meth c K hnm hX
  refine j_iload_n K 2 dX5_fillTableWithWater_0 rfl rfl ?_
  exact j_cS1x K dX5_fillTableWithWater_1 m_X5_demandDay s_X5_demandDay k_X5_88 (c_dDx _ h) (Nat.le_of_ble_eq_true rfl) ⟨by decide, by decide⟩ (by decide) (by decide) hX (fun _ => ⟨rfl, rfl⟩)
set_option maxRecDepth 20000 in
set_option maxHeartbeats 400000 in
theorem c_fTx2 {l : Launch} {D : va_G} {ca : Nat → ClassId} {q0 : Nat} {sa : Nat → Nat} {ad : jAd} {z n : Nat} {V : jV} (x d y : Int32) (hI : XI n V) (hd : 0 ≤ d ∧ d ≤ 99999) (h : ¬ okP n x) : jMet l D ca q0 sa ad yX5_fillTableWithWater cX5_fillTableWithWater 4 none 3 1 6 [.ref (ad 0 0), .int x, .int d, .int y] (jS z n V) (jExc "java/lang/IndexOutOfBoundsException" (jS z n V)) := by
  refine j_enter RX5 [some (.ref (ad 0 0)), some (.int x), some (.int d), some (.int y)] rfl (by decide) (by simp [Value.category]) (Nat.le_of_ble_eq_true rfl) rfl ?_
  intro p e s m args below meth c K hnm hX
  refine j_iload_n K 2 dX5_fillTableWithWater_0 rfl rfl ?_
  refine j_cS1n K dX5_fillTableWithWater_1 m_X5_demandDay s_X5_demandDay k_X5_88 (c_dD _ hd) (Nat.le_of_ble_eq_true rfl) ⟨by decide, by decide⟩ (by decide) (by decide) ?_
  refine j_aload_n K 0 dX5_fillTableWithWater_4 rfl rfl ?_
  refine jGr K 6 6 dX5_fillTableWithWater_5 f_X5_39 rfl rfl rfl rfl ?_
  refine j_aload_n K 0 dX5_fillTableWithWater_8 rfl rfl ?_
  refine j_iload_n K 1 dX5_fillTableWithWater_9 rfl rfl ?_
  exact j_cV1x K dX5_fillTableWithWater_10 m_X5_pierNumbered v_X5_pierNumbered k_X5_95 rfl ⟨by decide, rfl⟩ rfl (c_pNx _ hI h) (Nat.le_of_ble_eq_true rfl) ⟨by decide, by decide⟩ (by decide) (by decide) hX (fun _ => ⟨rfl, rfl⟩)
