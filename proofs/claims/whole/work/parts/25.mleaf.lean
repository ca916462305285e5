/-- the minutes and the trusts of the Model's reports for the pier i -/
def ymin (V : jV) (i : Nat) : Nat → Int32 := fun j => V 32 0 (6 * i + j)
def ytru (V : jV) (i : Nat) : Nat → Int32 := fun j => V 29 0 (tn (V 31 0 (6 * i + j)))
def YR (V : jV) (i c0 : Nat) : Prop := V 30 0 i = nI c0 ∧ c0 ≤ 6 ∧ ∀ j, j < c0 → ∃ f, f < 6 ∧ V 31 0 (6 * i + j) = nI f
/-- what the Model's part of the memory keeps -/
def YI (n : Nat) (V : jV) : Prop := n ≤ 6 ∧ V 20 0 1 = nI n ∧ (∀ i, i < n → YR V i (tn (V 30 0 i))) ∧ (∀ i, i < n → V 43 0 i = nI (tn (V 43 0 i)) ∧ tn (V 43 0 i) ≤ 4) ∧ (∀ q, q < 2 → V 34 0 q = nI (tn (V 34 0 q)) ∧ tn (V 34 0 q) ≤ 12) ∧ (V 20 0 19 = -1 ∨ (V 20 0 19 = nI (tn (V 20 0 19)) ∧ tn (V 20 0 19) < n ∧ V 20 0 20 = nI (tn (V 20 0 20)) ∧ tn (V 20 0 20) < 4))
def rangeY (V : jV) (i : Nat) (d : Int32) : Int32 := V 26 0 i - (V 26 0 i - V 27 0 i) * distOf d / 29
/-- thrown: the Model's field -/
def thr (V : jV) (x : Int32) : jV := up V 20 0 0 x
theorem jmul6 {x : Int32} {a : Nat} (h : x = nI a) : 6 * x = nI (6 * a) := jx_mul (a := 6) rfl h
set_option maxRecDepth 20000 in
set_option maxHeartbeats 400000 in
theorem c_MW {l : Launch} {D : va_G} {ca : Nat → ClassId} {q0 : Nat} {sa : Nat → Nat} {ad : jAd} {M : jM} (x lo hi : Int32) (h : lo ≤ x ∧ x ≤ hi) : jMet l D ca q0 sa ad yX6_isWithin cX6_isWithin 3 (some .boolean) 0 0 0 [.int x, .int lo, .int hi] (M) (jRet (some (.int 1)) (M)) := by
  refine j_enter RX6 [some (.int x), some (.int lo), some (.int hi)] rfl (by decide) (by simp [Value.category]) (Nat.le_of_ble_eq_true rfl) rfl ?_
  intro p e s m args below meth c K hnm hX
  refine j_iload_n K 0 dX6_isWithin_0 rfl rfl ?_
  refine j_iload_n K 1 dX6_isWithin_1 rfl rfl ?_
  refine j_icmp_lt K 14 dX6_isWithin_2 (by decide) (fun h_2 => ?_) (fun h_2 => ?_)
  · exact absurd h.1 (Int32.not_le.mpr h_2)
  · refine j_iload_n K 0 dX6_isWithin_5 rfl rfl ?_
    refine j_iload_n K 2 dX6_isWithin_6 rfl rfl ?_
    refine j_icmp_gt K 14 dX6_isWithin_7 (by decide) (fun h_7 => ?_) (fun h_7 => ?_)
    · exact absurd h.2 (Int32.not_le.mpr h_7)
    · refine j_iconst K 1 dX6_isWithin_10 rfl ?_
      refine j_goto K 15 dX6_isWithin_11 (by decide) ?_
      refine j_zret K dX6_isWithin_15 (by simp) ?_
      exact ⟨rfl, rfl⟩
set_option maxRecDepth 20000 in
set_option maxHeartbeats 400000 in
theorem c_MW0 {l : Launch} {D : va_G} {ca : Nat → ClassId} {q0 : Nat} {sa : Nat → Nat} {ad : jAd} {M : jM} (x lo hi : Int32) (h : ¬ (lo ≤ x ∧ x ≤ hi)) : jMet l D ca q0 sa ad yX6_isWithin cX6_isWithin 3 (some .boolean) 0 0 0 [.int x, .int lo, .int hi] (M) (jRet (some (.int 0)) (M)) := by
  refine j_enter RX6 [some (.int x), some (.int lo), some (.int hi)] rfl (by decide) (by simp [Value.category]) (Nat.le_of_ble_eq_true rfl) rfl ?_
  intro p e s m args below meth c K hnm hX
  refine j_iload_n K 0 dX6_isWithin_0 rfl rfl ?_
  refine j_iload_n K 1 dX6_isWithin_1 rfl rfl ?_
  refine j_icmp_lt K 14 dX6_isWithin_2 (by decide) (fun h_2 => ?_) (fun h_2 => ?_)
  · refine j_iconst K 0 dX6_isWithin_14 rfl ?_
    refine j_zret K dX6_isWithin_15 (by simp) ?_
    exact ⟨rfl, rfl⟩
  · refine j_iload_n K 0 dX6_isWithin_5 rfl rfl ?_
    refine j_iload_n K 2 dX6_isWithin_6 rfl rfl ?_
    refine j_icmp_gt K 14 dX6_isWithin_7 (by decide) (fun h_7 => ?_) (fun h_7 => ?_)
    · refine j_iconst K 0 dX6_isWithin_14 rfl ?_
      refine j_zret K dX6_isWithin_15 (by simp) ?_
      exact ⟨rfl, rfl⟩
    · exact absurd ⟨Int32.not_lt.mp h_2, Int32.not_lt.mp h_7⟩ h
set_option maxRecDepth 20000 in
set_option maxHeartbeats 400000 in
theorem c_MG {l : Launch} {D : va_G} {ca : Nat → ClassId} {q0 : Nat} {sa : Nat → Nat} {ad : jAd} {z n : Nat} {V : jV} (y : Int32) : jMet l D ca q0 sa ad yX6_isGood cX6_isGood 3 (some .boolean) 0 0 0 [.ref (ad 20 0), .int 1, .int y] (jS z n V) (jRet (some (.int 1)) (jS z n (thr V 0))) := by
  refine j_enter RX6 [some (.ref (ad 20 0)), some (.int 1), some (.int y)] rfl (by decide) (by simp [Value.category]) (Nat.le_of_ble_eq_true rfl) rfl ?_
  intro p e s m args below meth c K hnm hX
  refine j_aload_n K 0 dX6_isGood_0 rfl rfl ?_
  refine j_iload_n K 1 dX6_isGood_1 rfl rfl ?_
  refine j_if_eq K 9 dX6_isGood_2 (by decide) (fun h_2 => absurd h_2 (by decide)) (fun h_2 => ?_)
  refine j_iconst K 0 dX6_isGood_5 rfl ?_
  refine j_goto K 10 dX6_isGood_6 (by decide) ?_
  refine jPi K dX6_isGood_10 fo_X6_83 rfl rfl rfl rfl (Or.inl rfl) ?_
  refine j_iload_n K 1 dX6_isGood_13 rfl rfl ?_
  refine j_zret K dX6_isGood_14 (by simp) ?_
  exact ⟨rfl, rfl⟩
set_option maxRecDepth 20000 in
set_option maxHeartbeats 400000 in
theorem c_MG0 {l : Launch} {D : va_G} {ca : Nat → ClassId} {q0 : Nat} {sa : Nat → Nat} {ad : jAd} {z n : Nat} {V : jV} (y : Int32) : jMet l D ca q0 sa ad yX6_isGood cX6_isGood 3 (some .boolean) 0 0 0 [.ref (ad 20 0), .int 0, .int y] (jS z n V) (jRet (some (.int 0)) (jS z n (thr V y))) := by
  refine j_enter RX6 [some (.ref (ad 20 0)), some (.int 0), some (.int y)] rfl (by decide) (by simp [Value.category]) (Nat.le_of_ble_eq_true rfl) rfl ?_
  intro p e s m args below meth c K hnm hX
  refine j_aload_n K 0 dX6_isGood_0 rfl rfl ?_
  refine j_iload_n K 1 dX6_isGood_1 rfl rfl ?_
  refine j_if_eq K 9 dX6_isGood_2 (by decide) (fun h_2 => ?_) (fun h_2 => absurd (by decide) h_2)
  refine j_iload_n K 2 dX6_isGood_9 rfl rfl ?_
  refine jPi K dX6_isGood_10 fo_X6_83 rfl rfl rfl rfl (Or.inl rfl) ?_
  refine j_iload_n K 1 dX6_isGood_13 rfl rfl ?_
  refine j_zret K dX6_isGood_14 (by simp) ?_
  exact ⟨rfl, rfl⟩
set_option maxRecDepth 20000 in
set_option maxHeartbeats 400000 in
theorem c_MF {l : Launch} {D : va_G} {ca : Nat → ClassId} {q0 : Nat} {sa : Nat → Nat} {ad : jAd} {z n : Nat} {V : jV} (y : Int32) : jMet l D ca q0 sa ad yX6_fail cX6_fail 2 (some .int) 0 0 0 [.ref (ad 20 0), .int y] (jS z n V) (jRet (some (.int 0)) (jS z n (thr V y))) := by
  refine j_enter RX6 [some (.ref (ad 20 0)), some (.int y)] rfl (by decide) (by simp [Value.category]) (Nat.le_of_ble_eq_true rfl) rfl ?_
  intro p e s m args below meth c K hnm hX
  refine j_aload_n K 0 dX6_fail_0 rfl rfl ?_
  refine j_iload_n K 1 dX6_fail_1 rfl rfl ?_
  refine jPi K dX6_fail_2 fo_X6_83 rfl rfl rfl rfl (Or.inl rfl) ?_
  refine j_iconst K 0 dX6_fail_5 rfl ?_
  refine j_iret K dX6_fail_6 ?_
  exact ⟨rfl, rfl⟩
theorem okP_in {n : Nat} {x y : Int32} (hn : n ≤ 6) (hy : y = nI n) : okP n x ↔ (0 ≤ x ∧ x ≤ y - 1) := by
  subst hy
  constructor
  · rintro ⟨f, hf, rfl⟩
    refine ⟨Int32.not_lt.mp (nI_pos (by omega)), ?_⟩
    have h1 : nI n - 1 = nI (n - 1) := pk_sub (b := 1) (by omega)
    rw [h1, nI_leI (by omega) (by omega)]
    omega
  · rintro ⟨h0, h1⟩
    obtain ⟨j, hj, rfl⟩ := nI_of (Int32.not_lt.mpr h0)
    rcases Nat.eq_zero_or_pos n with h | h
    · subst h
      have h2 : nI 0 - 1 = -1 := by decide
      rw [h2] at h1
      exact absurd (Int32.le_trans h0 h1) (by decide)
    · have h2 : nI n - 1 = nI (n - 1) := pk_sub (b := 1) (by omega)
      rw [h2, nI_leI (by omega) (by omega)] at h1
      exact ⟨j, by omega, rfl⟩
set_option maxRecDepth 20000 in
set_option maxHeartbeats 400000 in
theorem c_MP {l : Launch} {D : va_G} {ca : Nat → ClassId} {q0 : Nat} {sa : Nat → Nat} {ad : jAd} {z n : Nat} {V : jV} (x : Int32) (hI : n ≤ 6 ∧ V 20 0 1 = nI n) (h : okP n x) : jMet l D ca q0 sa ad yX6_isPier cX6_isPier 2 (some .boolean) 1 0 0 [.ref (ad 20 0), .int x] (jS z n V) (jRet (some (.int 1)) (jS z n (thr V 0))) := by
  refine j_enter RX6 [some (.ref (ad 20 0)), some (.int x)] rfl (by decide) (by simp [Value.category]) (Nat.le_of_ble_eq_true rfl) rfl ?_
  intro p e s m args below meth c K hnm hX
  have hw := (okP_in hI.1 hI.2).mp h
  refine j_aload_n K 0 dX6_isPier_0 rfl rfl ?_
  refine j_iload_n K 1 dX6_isPier_1 rfl rfl ?_
  refine j_iconst K 0 dX6_isPier_2 rfl ?_
  refine j_aload_n K 0 dX6_isPier_3 rfl rfl ?_
  refine jGi K dX6_isPier_4 f_X6_86 rfl rfl rfl ?_
  refine j_iconst K 1 dX6_isPier_7 rfl ?_
  refine j_isub K dX6_isPier_8 ?_
  refine j_cS3r K dX6_isPier_9 m_X6_isWithin s_X6_isWithin k_X6_89 (c_MW _ _ _ hw) (Nat.le_of_ble_eq_true rfl) ⟨by decide, by decide⟩ (by decide) (by decide) ?_
  refine j_iconst K 1 dX6_isPier_12 rfl ?_
  refine j_cV2r K dX6_isPier_13 m_X6_isGood v_X6_isGood k_X6_93 rfl ⟨by decide, rfl⟩ rfl (c_MG _) (Nat.le_of_ble_eq_true rfl) ⟨by decide, by decide⟩ (by decide) (by decide) ?_
  refine j_zret K dX6_isPier_16 (by simp) ?_
  exact ⟨rfl, rfl⟩
set_option maxRecDepth 20000 in
set_option maxHeartbeats 400000 in
theorem c_MP0 {l : Launch} {D : va_G} {ca : Nat → ClassId} {q0 : Nat} {sa : Nat → Nat} {ad : jAd} {z n : Nat} {V : jV} (x : Int32) (hI : n ≤ 6 ∧ V 20 0 1 = nI n) (h : ¬ okP n x) : jMet l D ca q0 sa ad yX6_isPier cX6_isPier 2 (some .boolean) 1 0 0 [.ref (ad 20 0), .int x] (jS z n V) (jRet (some (.int 0)) (jS z n (thr V 1))) := by
  refine j_enter RX6 [some (.ref (ad 20 0)), some (.int x)] rfl (by decide) (by simp [Value.category]) (Nat.le_of_ble_eq_true rfl) rfl ?_
  intro p e s m args below meth c K hnm hX
  have hw := fun q => h ((okP_in hI.1 hI.2).mpr q)
  refine j_aload_n K 0 dX6_isPier_0 rfl rfl ?_
  refine j_iload_n K 1 dX6_isPier_1 rfl rfl ?_
  refine j_iconst K 0 dX6_isPier_2 rfl ?_
  refine j_aload_n K 0 dX6_isPier_3 rfl rfl ?_
  refine jGi K dX6_isPier_4 f_X6_86 rfl rfl rfl ?_
  refine j_iconst K 1 dX6_isPier_7 rfl ?_
  refine j_isub K dX6_isPier_8 ?_
  refine j_cS3r K dX6_isPier_9 m_X6_isWithin s_X6_isWithin k_X6_89 (c_MW0 _ _ _ hw) (Nat.le_of_ble_eq_true rfl) ⟨by decide, by decide⟩ (by decide) (by decide) ?_
  refine j_iconst K 1 dX6_isPier_12 rfl ?_
  refine j_cV2r K dX6_isPier_13 m_X6_isGood v_X6_isGood k_X6_93 rfl ⟨by decide, rfl⟩ rfl (c_MG0 _) (Nat.le_of_ble_eq_true rfl) ⟨by decide, by decide⟩ (by decide) (by decide) ?_
  refine j_zret K dX6_isPier_16 (by simp) ?_
  exact ⟨rfl, rfl⟩
set_option maxRecDepth 20000 in
set_option maxHeartbeats 400000 in
theorem c_MD {l : Launch} {D : va_G} {ca : Nat → ClassId} {q0 : Nat} {sa : Nat → Nat} {ad : jAd} {M : jM} (x : Int32) (hw : 0 ≤ x ∧ x ≤ 99999) : jMet l D ca q0 sa ad yX6_isDay cX6_isDay 1 (some .boolean) 1 0 0 [.int x] (M) (jRet (some (.int 1)) (M)) := by
  refine j_enter RX6 [some (.int x)] rfl (by decide) (by simp [Value.category]) (Nat.le_of_ble_eq_true rfl) rfl ?_
  intro p e s m args below meth c K hnm hX
  refine j_iload_n K 0 dX6_isDay_0 rfl rfl ?_
  refine j_iconst K 0 dX6_isDay_1 rfl ?_
  refine j_ldc K 99999 dX6_isDay_2 kc_X6_97 ?_
  refine j_cS3r K dX6_isDay_4 m_X6_isWithin s_X6_isWithin k_X6_89 (c_MW _ _ _ hw) (Nat.le_of_ble_eq_true rfl) ⟨by decide, by decide⟩ (by decide) (by decide) ?_
  refine j_zret K dX6_isDay_7 (by simp) ?_
  exact ⟨rfl, rfl⟩
set_option maxRecDepth 20000 in
set_option maxHeartbeats 400000 in
theorem c_MD0 {l : Launch} {D : va_G} {ca : Nat → ClassId} {q0 : Nat} {sa : Nat → Nat} {ad : jAd} {M : jM} (x : Int32) (hw : ¬ (0 ≤ x ∧ x ≤ 99999)) : jMet l D ca q0 sa ad yX6_isDay cX6_isDay 1 (some .boolean) 1 0 0 [.int x] (M) (jRet (some (.int 0)) (M)) := by
  refine j_enter RX6 [some (.int x)] rfl (by decide) (by simp [Value.category]) (Nat.le_of_ble_eq_true rfl) rfl ?_
  intro p e s m args below meth c K hnm hX
  refine j_iload_n K 0 dX6_isDay_0 rfl rfl ?_
  refine j_iconst K 0 dX6_isDay_1 rfl ?_
  refine j_ldc K 99999 dX6_isDay_2 kc_X6_97 ?_
  refine j_cS3r K dX6_isDay_4 m_X6_isWithin s_X6_isWithin k_X6_89 (c_MW0 _ _ _ hw) (Nat.le_of_ble_eq_true rfl) ⟨by decide, by decide⟩ (by decide) (by decide) ?_
  refine j_zret K dX6_isDay_7 (by simp) ?_
  exact ⟨rfl, rfl⟩
set_option maxRecDepth 20000 in
set_option maxHeartbeats 400000 in
theorem c_Mmoon {l : Launch} {D : va_G} {ca : Nat → ClassId} {q0 : Nat} {sa : Nat → Nat} {ad : jAd} {M : jM} (x : Int32) : jMet l D ca q0 sa ad yX6_moon cX6_moon 1 (some .int) 0 0 0 [.int x] (M) (jRet (some (.int (moonOf x))) (M)) := by
  refine j_enter RX6 [some (.int x)] rfl (by decide) (by simp [Value.category]) (Nat.le_of_ble_eq_true rfl) rfl ?_
  intro p e s m args below meth c K hnm hX
  refine j_iconst K 4 dX6_moon_0 rfl ?_
  refine j_iload_n K 0 dX6_moon_1 rfl rfl ?_
  refine j_imul K dX6_moon_2 ?_
  refine j_bipush K 118 dX6_moon_3 rfl ?_
  refine j_irem K dX6_moon_5 (by decide) ?_
  refine j_iret K dX6_moon_6 ?_
  exact ⟨rfl, rfl⟩
