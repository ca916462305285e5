section C
variable {l : Launch} {D : va_G} {ca : Nat → ClassId} {q0 : Nat} {sa : Nat → Nat} {ad : jAd} {T n : Nat} {V : jV}
theorem rng_nI {x : Int32} {N : Nat} {y : Int32} (hy : y = nI N) (hN : N < 2 ^ 31) (h : 0 ≤ x ∧ x ≤ y) : ∃ d, d ≤ N ∧ x = nI d := by
  obtain ⟨d, hd, e⟩ := nI_of (Int32.not_lt.mpr h.1)
  exact ⟨d, nle1 h.2 e hy hd hN, e⟩
theorem wt_o {U : jV} {a cnt k j i : Nat} {d : Int32} (h1 : ¬ k = 51) (h2 : ¬ k = 52) (h3 : ¬ k = 20) : wtT U a cnt d k i j = U k i j := by
  unfold wtT
  rw [tab_o h1 h2 (fun q => h3 q.1)]
  unfold thr up; rw [if_neg (fun q => h3 q.1), if_neg (fun q => h3 q.1)]
theorem out_wt {X : jV} {a cnt : Nat} {d v x : Int32} : thr (wtT (up X 60 0 0 v) a cnt d) x 60 0 0 = v := by
  have e : wtT (up X 60 0 0 v) a cnt d 60 0 0 = v := by rw [wt_o (by decide) (by decide) (by decide)]; simp [up]
  have e2 : thr (wtT (up X 60 0 0 v) a cnt d) x 60 0 0 = wtT (up X 60 0 0 v) a cnt d 60 0 0 := by unfold thr up; rw [if_neg (by omega)]
  rw [e2, e]
theorem SM_wt {V U : jV} {a cnt : Nat} {d : Int32} (h : SM V U) : SM V (wtT U a cnt d) := SM_tab (SM_thr (SM_thr h))
/-- the waters of the class's table and of the Model's -/
theorem water_inv {T n a d : Nat} {V U : jV} (hW : Inv T n V U) (ha : a < n) (hd : d ≤ 99999) :
    ∃ w, w ≤ 4 ∧ wcnt (w0m (mthX V a (tn (V 11 a 3)) (nI d) 0)) (w0h (mthX V a (tn (V 11 a 3)) (nI d) 0)) = w ∧ wtC U a (tn (V 11 a 3)) (nI d) = w ∧ ∀ j, j < w → wtT U a (tn (V 11 a 3)) (nI d) 51 0 j = filV V 6 a (tn (V 11 a 3)) (nI d) 7 6 j ∧
      bI (decide (wtT U a (tn (V 11 a 3)) (nI d) 52 0 j = 0)) = filV V 6 a (tn (V 11 a 3)) (nI d) 9 6 j ∧ (filV V 6 a (tn (V 11 a 3)) (nI d) 9 6 j = 0 ∨ filV V 6 a (tn (V 11 a 3)) (nI d) 9 6 j = 1) ∧
      (if wtT U a (tn (V 11 a 3)) (nI d) 52 0 j = 0 then wtT U a (tn (V 11 a 3)) (nI d) 25 0 a + rangeY (wtT U a (tn (V 11 a 3)) (nI d)) a (nI d) / 2 else wtT U a (tn (V 11 a 3)) (nI d) 25 0 a - rangeY (wtT U a (tn (V 11 a 3)) (nI d)) a (nI d) / 2) = filV V 6 a (tn (V 11 a 3)) (nI d) 8 6 j := by
  have h2 := Inv_thr (x := 0) (Inv_thr (x := 0) hW)
  obtain ⟨w, w1, w4, e1, f6, t29, hrow⟩ := tab_inv 6 h2.1 h2.2.1 ha hd
  have r25 : wtT U a (tn (V 11 a 3)) (nI d) 25 0 a = thr (thr U 0) 0 25 0 a := tab_o (by decide) (by decide) (by omega)
  have rr : rangeY (wtT U a (tn (V 11 a 3)) (nI d)) a (nI d) = rangeY (thr (thr U 0) 0) a (nI d) := by
    have r26 : wtT U a (tn (V 11 a 3)) (nI d) 26 0 a = thr (thr U 0) 0 26 0 a := tab_o (by decide) (by decide) (by omega)
    have r27 : wtT U a (tn (V 11 a 3)) (nI d) 27 0 a = thr (thr U 0) 0 27 0 a := tab_o (by decide) (by decide) (by omega)
    unfold rangeY; rw [r26, r27]
  refine ⟨w, w4, e1, ?_, fun j hj => ?_⟩
  · unfold wtC wtT; rw [t29, tn_nI (by omega)]
  · obtain ⟨q1, q2, q3, q4⟩ := hrow j hj
    refine ⟨q1, ?_, q3, ?_⟩
    · have q2' : wtT U a (tn (V 11 a 3)) (nI d) 52 0 j = 1 - filV V 6 a (tn (V 11 a 3)) (nI d) 9 6 j := q2
      rw [q2']
      rcases q3 with z | z <;> rw [z] <;> decide
    · rw [r25, rr, q4]; rfl
theorem case_waterCount (h : Inv T n V V) (p0 p1 : Int32) : Case l D ca q0 sa ad yL_waterCount cL_waterCount 5 hL_waterCount yX6_waterCount cX6_waterCount 3 (some .int) [.int p0, .int p1] T n V := by
  have hX := Inv_XI h
  have hI : n ≤ 6 ∧ V 20 0 1 = nI n := ⟨h.1.1, h.1.2.2.1⟩
  have hn6 := h.1.1
  by_cases h0 : okP n p0
  · obtain ⟨a, ha, hx⟩ := h0
    by_cases h1 : 0 ≤ p1 ∧ p1 ≤ 99999
    · obtain ⟨d, hd, e⟩ := rng_nI (N := 99999) rfl (by decide) h1
      subst e
      have hs : SM V (up (filV V 6 a (tn (V 11 a 3)) (nI d)) 60 0 0 (filV V 6 a (tn (V 11 a 3)) (nI d) 6 6 3)) := SM_out (SM_fil (SM_refl V))
      have hW := Inv_SW h hs
      have h2 := Inv_thr (x := 0) hW
      obtain ⟨w, w1, w4, e1, f6, t29, hrow⟩ := tab_inv 6 h2.1 h2.2.1 ha hd
      refine ⟨0, _, up (filV V 6 a (tn (V 11 a 3)) (nI d)) 60 0 0 (filV V 6 a (tn (V 11 a 3)) (nI d) 6 6 3), _, 4, 3, 0, 0, T, ⟨by decide, by decide, by decide, by decide, by omega⟩, fun z => wr_waterCount _ _ (filV V 6 a (tn (V 11 a 3)) (nI d) 6 6 3) rfl rfl (c_waterCount p0 _ hX ha hx h1), fun z => c_M_waterCount p0 _ ⟨hn6, hW.1.2.2.1⟩ ha hx h1 (QR_YR (IB_cnt hW.2.1 ha).2.1), (tab_o (by decide) (by decide) (by omega)).trans thr_at, fun _ => ?_, Inv_SM h (SM_tab (SM_thr hs))⟩
      rw [t29, ← f6]; exact (tab_o (by decide) (by decide) (by omega)).trans thr_60
    · exact ⟨2, 0, V, thr (thr V 0) 2, 4, 3, 1, 6, T, ⟨by decide, by decide, by decide, by decide, by omega⟩, fun z => wx_waterCount_2 _ _ rfl (c_waterCountx2 p0 p1 hX ha hx h1), fun z => c_M_waterCountx2 p0 p1 hI ha hx h1, thr_at, fun w => absurd w (by decide), Inv_SM h (SM_thr (SM_thr (SM_refl V)))⟩
  · exact ⟨1, 0, V, thr V 1, 4, 3, 1, 6, T, ⟨by decide, by decide, by decide, by decide, by omega⟩, fun z => wx_waterCount_1 _ _ rfl (c_waterCountx1 p0 p1 hX h0), fun z => c_M_waterCountx1 p0 p1 hI h0, thr_at, fun w => absurd w (by decide), Inv_SM h (SM_thr (SM_refl V))⟩
theorem case_waterMinute (h : Inv T n V V) (p0 p1 p2 : Int32) : Case l D ca q0 sa ad yL_waterMinute cL_waterMinute 6 hL_waterMinute yX6_waterMinute cX6_waterMinute 4 (some .int) [.int p0, .int p1, .int p2] T n V := by
  have hX := Inv_XI h
  have hI : n ≤ 6 ∧ V 20 0 1 = nI n := ⟨h.1.1, h.1.2.2.1⟩
  have hn6 := h.1.1
  by_cases h1 : 0 ≤ p1 ∧ p1 ≤ 99999
  · obtain ⟨d, hd, e⟩ := rng_nI (N := 99999) rfl (by decide) h1
    subst e
    by_cases h0 : okP n p0
    · obtain ⟨a, ha, hx⟩ := h0
      obtain ⟨w, w4, e1, e2, hrow⟩ := water_inv h ha hd
      by_cases h2 : okP w p2
      · obtain ⟨j, hj, hy⟩ := h2
        have hs : SM V (up (filV V 6 a (tn (V 11 a 3)) (nI d)) 60 0 0 (filV V 6 a (tn (V 11 a 3)) (nI d) 7 6 j)) := SM_out (SM_fil (SM_refl V))
        have hW := Inv_SW h hs
        obtain ⟨w', w4', e1', e2', hrow'⟩ := water_inv hW ha hd
        have ew : w' = w := e1'.symm.trans e1
        subst ew
        have q := hrow' j hj
        refine ⟨0, _, up (filV V 6 a (tn (V 11 a 3)) (nI d)) 60 0 0 (filV V 6 a (tn (V 11 a 3)) (nI d) 7 6 j), _, 5, 4, 0, 0, T, ⟨by decide, by decide, by decide, by decide, by omega⟩, fun z => wr_waterMinute _ _ _ (filV V 6 a (tn (V 11 a 3)) (nI d) 7 6 j) rfl rfl (c_waterMinute p0 _ p2 hX ha hx h1 hy (by rw [e1]; exact hj)), fun z => c_M_waterMinute p0 _ p2 ⟨hn6, hW.1.2.2.1⟩ ha hx h1 (QR_YR (IB_cnt hW.2.1 ha).2.1) (by rw [e2']; exact hj) hy, thr_at, fun _ => ?_, Inv_SM h (SM_thr (SM_wt hs))⟩
        exact out_wt.trans (q.1).symm
      · exact ⟨2, 0, filV V 6 a (tn (V 11 a 3)) (nI d), _, 5, 4, 1, 6, T, ⟨by decide, by decide, by decide, by decide, by omega⟩, fun z => wx_waterMinute_2 _ _ _ rfl (c_waterMinutex3 p0 _ p2 hX ha hx h1 (by rw [e1]; exact h2)), fun z => c_M_waterMinutex3 p0 _ p2 ⟨hn6, (Inv_SW h (SM_fil (SM_refl V))).1.2.2.1⟩ ha hx h1 (QR_YR (IB_cnt (Inv_SW h (SM_fil (SM_refl V))).2.1 ha).2.1) (by
          obtain ⟨w2, _, e3, e4, _⟩ := water_inv (Inv_SW h (SM_fil (a := a) (cnt := tn (V 11 a 3)) (d := nI d) (SM_refl V))) ha hd
          rw [e4, ← e3, e1]; exact h2), thr_at, fun w => absurd w (by decide), Inv_SM h (SM_thr (SM_wt (SM_fil (SM_refl V))))⟩
    · exact ⟨2, 0, V, thr (thr V 0) 2, 5, 4, 1, 6, T, ⟨by decide, by decide, by decide, by decide, by omega⟩, fun z => wx_waterMinute_2 _ _ _ rfl (c_waterMinutex2 p0 _ p2 hX h1 h0), fun z => c_M_waterMinutex2 p0 _ p2 hI h1 h0, thr_at, fun w => absurd w (by decide), Inv_SM h (SM_thr (SM_thr (SM_refl V)))⟩
  · exact ⟨1, 0, V, thr V 1, 5, 4, 1, 6, T, ⟨by decide, by decide, by decide, by decide, by omega⟩, fun z => wx_waterMinute_1 _ _ _ rfl (c_waterMinutex1 p0 p1 p2 hX h1), fun z => c_M_waterMinutex1 p0 p1 p2 hI h1, thr_at, fun w => absurd w (by decide), Inv_SM h (SM_thr (SM_refl V))⟩
theorem case_waterHeight (h : Inv T n V V) (p0 p1 p2 : Int32) : Case l D ca q0 sa ad yL_waterHeight cL_waterHeight 6 hL_waterHeight yX6_waterHeight cX6_waterHeight 4 (some .int) [.int p0, .int p1, .int p2] T n V := by
  have hX := Inv_XI h
  have hI : n ≤ 6 ∧ V 20 0 1 = nI n := ⟨h.1.1, h.1.2.2.1⟩
  have hn6 := h.1.1
  by_cases h1 : 0 ≤ p1 ∧ p1 ≤ 99999
  · obtain ⟨d, hd, e⟩ := rng_nI (N := 99999) rfl (by decide) h1
    subst e
    by_cases h0 : okP n p0
    · obtain ⟨a, ha, hx⟩ := h0
      obtain ⟨w, w4, e1, e2, hrow⟩ := water_inv h ha hd
      by_cases h2 : okP w p2
      · obtain ⟨j, hj, hy⟩ := h2
        have hs : SM V (up (filV V 6 a (tn (V 11 a 3)) (nI d)) 60 0 0 (filV V 6 a (tn (V 11 a 3)) (nI d) 8 6 j)) := SM_out (SM_fil (SM_refl V))
        have hW := Inv_SW h hs
        obtain ⟨w', w4', e1', e2', hrow'⟩ := water_inv hW ha hd
        have ew : w' = w := e1'.symm.trans e1
        subst ew
        have q := hrow' j hj
        refine ⟨0, _, up (filV V 6 a (tn (V 11 a 3)) (nI d)) 60 0 0 (filV V 6 a (tn (V 11 a 3)) (nI d) 8 6 j), _, 5, 4, 0, 0, T, ⟨by decide, by decide, by decide, by decide, by omega⟩, fun z => wr_waterHeight _ _ _ (filV V 6 a (tn (V 11 a 3)) (nI d) 8 6 j) rfl rfl (c_waterHeight p0 _ p2 hX ha hx h1 hy (by rw [e1]; exact hj)), fun z => c_M_waterHeight p0 _ p2 ⟨hn6, hW.1.2.2.1⟩ ha hx h1 (QR_YR (IB_cnt hW.2.1 ha).2.1) (by rw [e2']; exact hj) hy, thr_at, fun _ => ?_, Inv_SM h (SM_thr (SM_wt hs))⟩
        exact out_wt.trans (q.2.2.2).symm
      · exact ⟨2, 0, filV V 6 a (tn (V 11 a 3)) (nI d), _, 5, 4, 1, 6, T, ⟨by decide, by decide, by decide, by decide, by omega⟩, fun z => wx_waterHeight_2 _ _ _ rfl (c_waterHeightx3 p0 _ p2 hX ha hx h1 (by rw [e1]; exact h2)), fun z => c_M_waterHeightx3 p0 _ p2 ⟨hn6, (Inv_SW h (SM_fil (SM_refl V))).1.2.2.1⟩ ha hx h1 (QR_YR (IB_cnt (Inv_SW h (SM_fil (SM_refl V))).2.1 ha).2.1) (by
          obtain ⟨w2, _, e3, e4, _⟩ := water_inv (Inv_SW h (SM_fil (a := a) (cnt := tn (V 11 a 3)) (d := nI d) (SM_refl V))) ha hd
          rw [e4, ← e3, e1]; exact h2), thr_at, fun w => absurd w (by decide), Inv_SM h (SM_thr (SM_wt (SM_fil (SM_refl V))))⟩
    · exact ⟨2, 0, V, thr (thr V 0) 2, 5, 4, 1, 6, T, ⟨by decide, by decide, by decide, by decide, by omega⟩, fun z => wx_waterHeight_2 _ _ _ rfl (c_waterHeightx2 p0 _ p2 hX h1 h0), fun z => c_M_waterHeightx2 p0 _ p2 hI h1 h0, thr_at, fun w => absurd w (by decide), Inv_SM h (SM_thr (SM_thr (SM_refl V)))⟩
  · exact ⟨1, 0, V, thr V 1, 5, 4, 1, 6, T, ⟨by decide, by decide, by decide, by decide, by omega⟩, fun z => wx_waterHeight_1 _ _ _ rfl (c_waterHeightx1 p0 p1 p2 hX h1), fun z => c_M_waterHeightx1 p0 p1 p2 hI h1, thr_at, fun w => absurd w (by decide), Inv_SM h (SM_thr (SM_refl V))⟩
theorem case_isHighWater (h : Inv T n V V) (p0 p1 p2 : Int32) : Case l D ca q0 sa ad yL_isHighWater cL_isHighWater 6 hL_isHighWater yX6_isHighWater cX6_isHighWater 4 (some .boolean) [.int p0, .int p1, .int p2] T n V := by
  have hX := Inv_XI h
  have hI : n ≤ 6 ∧ V 20 0 1 = nI n := ⟨h.1.1, h.1.2.2.1⟩
  have hn6 := h.1.1
  by_cases h1 : 0 ≤ p1 ∧ p1 ≤ 99999
  · obtain ⟨d, hd, e⟩ := rng_nI (N := 99999) rfl (by decide) h1
    subst e
    by_cases h0 : okP n p0
    · obtain ⟨a, ha, hx⟩ := h0
      obtain ⟨w, w4, e1, e2, hrow⟩ := water_inv h ha hd
      by_cases h2 : okP w p2
      · obtain ⟨j, hj, hy⟩ := h2
        have hs : SM V (up (filV V 6 a (tn (V 11 a 3)) (nI d)) 60 0 0 (filV V 6 a (tn (V 11 a 3)) (nI d) 9 6 j)) := SM_out (SM_fil (SM_refl V))
        have hW := Inv_SW h hs
        obtain ⟨w', w4', e1', e2', hrow'⟩ := water_inv hW ha hd
        have ew : w' = w := e1'.symm.trans e1
        subst ew
        have q := hrow' j hj
        refine ⟨0, _, up (filV V 6 a (tn (V 11 a 3)) (nI d)) 60 0 0 (filV V 6 a (tn (V 11 a 3)) (nI d) 9 6 j), _, 5, 4, 0, 0, T, ⟨by decide, by decide, by decide, by decide, by omega⟩, fun z => wr_isHighWater _ _ _ (filV V 6 a (tn (V 11 a 3)) (nI d) 9 6 j) q.2.2.1 rfl rfl (c_isHighWater p0 _ p2 hX ha hx h1 hy (by rw [e1]; exact hj)), fun z => c_M_isHighWater p0 _ p2 ⟨hn6, hW.1.2.2.1⟩ ha hx h1 (QR_YR (IB_cnt hW.2.1 ha).2.1) (by rw [e2']; exact hj) hy, thr_at, fun _ => ?_, Inv_SM h (SM_thr (SM_wt hs))⟩
        exact out_wt.trans (q.2.1).symm
      · exact ⟨2, 0, filV V 6 a (tn (V 11 a 3)) (nI d), _, 5, 4, 1, 6, T, ⟨by decide, by decide, by decide, by decide, by omega⟩, fun z => wx_isHighWater_2 _ _ _ rfl (c_isHighWaterx3 p0 _ p2 hX ha hx h1 (by rw [e1]; exact h2)), fun z => c_M_isHighWaterx3 p0 _ p2 ⟨hn6, (Inv_SW h (SM_fil (SM_refl V))).1.2.2.1⟩ ha hx h1 (QR_YR (IB_cnt (Inv_SW h (SM_fil (SM_refl V))).2.1 ha).2.1) (by
          obtain ⟨w2, _, e3, e4, _⟩ := water_inv (Inv_SW h (SM_fil (a := a) (cnt := tn (V 11 a 3)) (d := nI d) (SM_refl V))) ha hd
          rw [e4, ← e3, e1]; exact h2), thr_at, fun w => absurd w (by decide), Inv_SM h (SM_thr (SM_wt (SM_fil (SM_refl V))))⟩
    · exact ⟨2, 0, V, thr (thr V 0) 2, 5, 4, 1, 6, T, ⟨by decide, by decide, by decide, by decide, by omega⟩, fun z => wx_isHighWater_2 _ _ _ rfl (c_isHighWaterx2 p0 _ p2 hX h1 h0), fun z => c_M_isHighWaterx2 p0 _ p2 hI h1 h0, thr_at, fun w => absurd w (by decide), Inv_SM h (SM_thr (SM_thr (SM_refl V)))⟩
  · exact ⟨1, 0, V, thr V 1, 5, 4, 1, 6, T, ⟨by decide, by decide, by decide, by decide, by omega⟩, fun z => wx_isHighWater_1 _ _ _ rfl (c_isHighWaterx1 p0 p1 p2 hX h1), fun z => c_M_isHighWaterx1 p0 p1 p2 hI h1, thr_at, fun w => absurd w (by decide), Inv_SM h (SM_thr (SM_refl V))⟩
theorem case_minutesToHighWater (h : Inv T n V V) (p0 p1 p2 : Int32) : Case l D ca q0 sa ad yL_minutesToHighWater cL_minutesToHighWater 6 hL_minutesToHighWater yX6_minutesToHighWater cX6_minutesToHighWater 5 (some .int) [.int p0, .int p1, .int p2] T n V := by
  have hX := Inv_XI h
  have hI : n ≤ 6 ∧ V 20 0 1 = nI n := ⟨h.1.1, h.1.2.2.1⟩
  have hn6 := h.1.1
  by_cases h0 : okP n p0
  · obtain ⟨a, ha, hx⟩ := h0
    by_cases h1 : 0 ≤ p1 ∧ p1 ≤ 99999
    · by_cases h2 : 0 ≤ p2 ∧ p2 ≤ 1439
      · obtain ⟨d, hd, e⟩ := rng_nI (N := 99999) rfl (by decide) h1
        obtain ⟨u, hu, e'⟩ := rng_nI (N := 1439) rfl (by decide) h2
        subst e; subst e'
        have hs : SM V (up V 60 0 0 (mthX V a (tn (V 11 a 3)) (nI d) (nI u))) := SM_out (SM_refl V)
        have hW := Inv_SW h hs
        obtain ⟨r, r1, r2, r3, r4⟩ := mth_inv hW.1 hW.2.1 ha hd hu
        refine ⟨0, nI r, up (V) 60 0 0 (mthX V a (tn (V 11 a 3)) (nI d) (nI u)), _, 3, 3, 0, 0, T, ⟨by decide, by decide, by decide, by decide, by omega⟩, fun z => wr_minutesToHighWater _ _ _ (mthX V a (tn (V 11 a 3)) (nI d) (nI u)) rfl rfl (c_minutesToHighWater p0 _ _ hX ha hx h1 h2), fun z => c_M_minutesToHighWater p0 _ _ ⟨hn6, hW.1.2.2.1⟩ ha hx h1 (QR_YR (IB_cnt hW.2.1 ha).2.1) h2 r3 r4 (by omega), thr_at, fun _ => ?_, Inv_SM h (SM_thr hs)⟩
        exact thr_60.trans r2
      · exact ⟨2, 0, V, thr (thr V 0) 2, 3, 3, 1, 6, T, ⟨by decide, by decide, by decide, by decide, by omega⟩, fun z => wx_minutesToHighWater_2 _ _ _ rfl (c_minutesToHighWaterx3 p0 p1 p2 hX ha hx h1 h2), fun z => c_M_minutesToHighWaterx3 p0 p1 p2 hI ha hx h1 h2, thr_at, fun w => absurd w (by decide), Inv_SM h (SM_thr (SM_thr (SM_refl V)))⟩
    · exact ⟨2, 0, V, thr (thr V 0) 2, 3, 3, 1, 6, T, ⟨by decide, by decide, by decide, by decide, by omega⟩, fun z => wx_minutesToHighWater_2 _ _ _ rfl (c_minutesToHighWaterx2 p0 p1 p2 hX ha hx h1), fun z => c_M_minutesToHighWaterx2 p0 p1 p2 hI ha hx h1, thr_at, fun w => absurd w (by decide), Inv_SM h (SM_thr (SM_thr (SM_refl V)))⟩
  · exact ⟨1, 0, V, thr V 1, 3, 3, 1, 6, T, ⟨by decide, by decide, by decide, by decide, by omega⟩, fun z => wx_minutesToHighWater_1 _ _ _ rfl (c_minutesToHighWaterx1 p0 p1 p2 hX h0), fun z => c_M_minutesToHighWaterx1 p0 p1 p2 hI h0, thr_at, fun w => absurd w (by decide), Inv_SM h (SM_thr (SM_refl V))⟩
end C
