section C
variable {l : Launch} {D : va_G} {ca : Nat → ClassId} {q0 : Nat} {sa : Nat → Nat} {ad : jAd} {T n : Nat} {V : jV}
theorem case_reporterAt (h : Inv T n V V) (p0 p1 : Int32) : Case l D ca q0 sa ad yL_reporterAt cL_reporterAt 5 hL_reporterAt yX6_reporterAt cX6_reporterAt 3 (some .int) [.int p0, .int p1] T n V := by
  have hX := Inv_XI h
  have hI : n ≤ 6 ∧ V 20 0 1 = nI n := ⟨h.1.1, h.1.2.2.1⟩
  have hn6 := h.1.1
  by_cases h0 : okP n p0
  · obtain ⟨a, ha, hx⟩ := h0
    by_cases h1 : okP (tn (V 11 a 3)) p1
    · obtain ⟨j, hj, hy⟩ := h1
      have hs : SM V (up V 60 0 0 (V 12 a j)) := SM_out (SM_refl V)
      have hW := Inv_SW h hs
      refine ⟨0, _, up (V) 60 0 0 (V 12 a j), _, 3, 3, 0, 0, T, ⟨by decide, by decide, by decide, by decide, by omega⟩, fun z => wr_reporterAt _ _ (V 12 a j) rfl rfl (c_reporterAt p0 p1 hX ha hx hy hj), fun z => c_M_reporterAt p0 p1 ⟨hn6, hW.1.2.2.1⟩ ha hx (QR_YR (IB_cnt hW.2.1 ha).2.1) hj hy, thr_at, fun _ => ?_, Inv_SM h (SM_thr hs)⟩
      exact thr_60.trans ((IB_cnt hW.2.1 ha).2.1.2.2.2.1 j hj).1.symm
    · exact ⟨2, 0, V, thr (thr V 0) 2, 3, 3, 1, 6, T, ⟨by decide, by decide, by decide, by decide, by omega⟩, fun z => wx_reporterAt_2 _ _ rfl (c_reporterAtx2 p0 p1 hX ha hx h1), fun z => c_M_reporterAtx2 p0 p1 hI ha hx (QR_YR (IB_cnt h.2.1 ha).2.1) h1, thr_at, fun w => absurd w (by decide), Inv_SM h (SM_thr (SM_thr (SM_refl V)))⟩
  · exact ⟨1, 0, V, thr V 1, 3, 3, 1, 6, T, ⟨by decide, by decide, by decide, by decide, by omega⟩, fun z => wx_reporterAt_1 _ _ rfl (c_reporterAtx1 p0 p1 hX h0), fun z => c_M_reporterAtx1 p0 p1 hI h0, thr_at, fun w => absurd w (by decide), Inv_SM h (SM_thr (SM_refl V))⟩
/-- the place of a fisherman's report, on both sides -/
theorem place_rel {n a : Nat} {V U : jV} {x : Int32} (hB : IB n V U) (ha : a < n) : fres (fun j => decide (U 31 0 (6 * a + j) = x)) (tn (V 11 a 3)) = fres (fun j => decide (V 12 a j = x)) (tn (V 11 a 3)) :=
  fres_congr (fun j hj => by
    have e := ((IB_cnt hB ha).2.1.2.2.2.1 j hj).1
    show decide (U 31 0 (6 * a + j) = x) = decide (V 12 a j = x)
    rw [e])
theorem fres_lt {P : Nat → Bool} {c g : Nat} (hg : fidx P c = g) (h : g < c) : fres P c = nI g := by unfold fres; rw [hg, if_pos h]
theorem fres_no {P : Nat → Bool} {c : Nat} (h : ¬ fidx P c < c) : fres P c = -1 := by unfold fres; rw [if_neg h]
theorem case_reportedMinutes (h : Inv T n V V) (p0 p1 : Int32) : Case l D ca q0 sa ad yL_reportedMinutes cL_reportedMinutes 5 hL_reportedMinutes yX6_reportedMinutes cX6_reportedMinutes 3 (some .int) [.int p0, .int p1] T n V := by
  have hX := Inv_XI h
  have hI : n ≤ 6 ∧ V 20 0 1 = nI n := ⟨h.1.1, h.1.2.2.1⟩
  have hn6 := h.1.1
  by_cases h6 : okP 6 p0
  · by_cases h0 : okP n p1
    · obtain ⟨a, ha, hx⟩ := h0
      obtain ⟨g, hg⟩ : ∃ g, fidx (fun j => decide (V 12 a j = p0)) (tn (V 11 a 3)) = g := ⟨_, rfl⟩
      have hc6 := (IB_cnt h.2.1 ha).2.1.2.2.1
      by_cases h1 : g < tn (V 11 a 3)
      · have hs : SM V (up V 60 0 0 (V 13 a g)) := SM_out (SM_refl V)
        have hW := Inv_SW h hs
        refine ⟨0, _, up (V) 60 0 0 (V 13 a g), _, 4, 3, 0, 0, T, ⟨by decide, by decide, by decide, by decide, by omega⟩, fun z => wr_reportedMinutes _ _ (V 13 a g) rfl rfl (c_reportedMinutes p0 p1 hX ha hx h6 hg h1), fun z => c_M_reportedMinutes p0 p1 ⟨hn6, hW.1.2.2.1⟩ h6 ha hx (QR_YR (IB_cnt hW.2.1 ha).2.1) (by omega) ((place_rel hW.2.1 ha).trans (fres_lt hg h1)), thr_at, fun _ => ?_, Inv_SM h (SM_thr hs)⟩
        exact thr_60.trans ((IB_cnt hW.2.1 ha).2.1.2.2.2.1 g h1).2.1.symm
      · exact ⟨2, 0, V, thr (thr V 0) 2, 4, 3, 1, 6, T, ⟨by decide, by decide, by decide, by decide, by omega⟩, fun z => wx_reportedMinutes_2 _ _ rfl (c_reportedMinutesx3 p0 p1 hX ha hx h6 (by rw [hg]; exact h1)), fun z => c_M_reportedMinutesx3 p0 p1 hI h6 ha hx (QR_YR (IB_cnt h.2.1 ha).2.1) ((place_rel h.2.1 ha).trans (fres_no (by rw [hg]; exact h1))), thr_at, fun w => absurd w (by decide), Inv_SM h (SM_thr (SM_thr (SM_refl V)))⟩
    · exact ⟨1, 0, V, thr V 1, 4, 3, 1, 6, T, ⟨by decide, by decide, by decide, by decide, by omega⟩, fun z => wx_reportedMinutes_1 _ _ rfl (c_reportedMinutesx2 p0 p1 hX h6 h0), fun z => c_M_reportedMinutesx2 p0 p1 hI h6 h0, thr_at, fun w => absurd w (by decide), Inv_SM h (SM_thr (SM_refl V))⟩
  · exact ⟨1, 0, V, thr V 1, 4, 3, 1, 6, T, ⟨by decide, by decide, by decide, by decide, by omega⟩, fun z => wx_reportedMinutes_1 _ _ rfl (c_reportedMinutesx1 p0 p1 hX h6), fun z => c_M_reportedMinutesx1 p0 p1 hI h6, thr_at, fun w => absurd w (by decide), Inv_SM h (SM_thr (SM_refl V))⟩
theorem case_reportAge (h : Inv T n V V) (p0 p1 : Int32) : Case l D ca q0 sa ad yL_reportAge cL_reportAge 5 hL_reportAge yX6_reportAge cX6_reportAge 3 (some .int) [.int p0, .int p1] T n V := by
  have hX := Inv_XI h
  have hI : n ≤ 6 ∧ V 20 0 1 = nI n := ⟨h.1.1, h.1.2.2.1⟩
  have hn6 := h.1.1
  by_cases h6 : okP 6 p0
  · by_cases h0 : okP n p1
    · obtain ⟨a, ha, hx⟩ := h0
      obtain ⟨g, hg⟩ : ∃ g, fidx (fun j => decide (V 12 a j = p0)) (tn (V 11 a 3)) = g := ⟨_, rfl⟩
      have hc6 := (IB_cnt h.2.1 ha).2.1.2.2.1
      by_cases h1 : g < tn (V 11 a 3)
      · have hs : SM V (up V 60 0 0 (V 14 a g)) := SM_out (SM_refl V)
        have hW := Inv_SW h hs
        refine ⟨0, _, up (V) 60 0 0 (V 14 a g), _, 4, 3, 0, 0, T, ⟨by decide, by decide, by decide, by decide, by omega⟩, fun z => wr_reportAge _ _ (V 14 a g) rfl rfl (c_reportAge p0 p1 hX ha hx h6 hg h1), fun z => c_M_reportAge p0 p1 ⟨hn6, hW.1.2.2.1⟩ h6 ha hx (QR_YR (IB_cnt hW.2.1 ha).2.1) (by omega) ((place_rel hW.2.1 ha).trans (fres_lt hg h1)), thr_at, fun _ => ?_, Inv_SM h (SM_thr hs)⟩
        exact thr_60.trans ((IB_cnt hW.2.1 ha).2.1.2.2.2.1 g h1).2.2.symm
      · exact ⟨2, 0, V, thr (thr V 0) 2, 4, 3, 1, 6, T, ⟨by decide, by decide, by decide, by decide, by omega⟩, fun z => wx_reportAge_2 _ _ rfl (c_reportAgex3 p0 p1 hX ha hx h6 (by rw [hg]; exact h1)), fun z => c_M_reportAgex3 p0 p1 hI h6 ha hx (QR_YR (IB_cnt h.2.1 ha).2.1) ((place_rel h.2.1 ha).trans (fres_no (by rw [hg]; exact h1))), thr_at, fun w => absurd w (by decide), Inv_SM h (SM_thr (SM_thr (SM_refl V)))⟩
    · exact ⟨1, 0, V, thr V 1, 4, 3, 1, 6, T, ⟨by decide, by decide, by decide, by decide, by omega⟩, fun z => wx_reportAge_1 _ _ rfl (c_reportAgex2 p0 p1 hX h6 h0), fun z => c_M_reportAgex2 p0 p1 hI h6 h0, thr_at, fun w => absurd w (by decide), Inv_SM h (SM_thr (SM_refl V))⟩
  · exact ⟨1, 0, V, thr V 1, 4, 3, 1, 6, T, ⟨by decide, by decide, by decide, by decide, by omega⟩, fun z => wx_reportAge_1 _ _ rfl (c_reportAgex1 p0 p1 hX h6), fun z => c_M_reportAgex1 p0 p1 hI h6, thr_at, fun w => absurd w (by decide), Inv_SM h (SM_thr (SM_refl V))⟩
theorem okC {x : Int32} (h : ¬ okP 2 x) : ¬ (0 ≤ x ∧ x ≤ 1) := fun q => h ((okP_in (n := 2) (y := 2) (by decide) rfl).mpr q)
theorem okC_01 {x : Int32} (h : okP 2 x) : x = 0 ∨ x = 1 := by
  obtain ⟨q, hq, e⟩ := h
  rcases (show q = 0 ∨ q = 1 by omega) with z | z
  · left; rw [e, z]; rfl
  · right; rw [e, z]; rfl
theorem case_tinCount (h : Inv T n V V) (p0 : Int32) : Case l D ca q0 sa ad yL_tinCount cL_tinCount 4 hL_tinCount yX6_tinCount cX6_tinCount 2 (some .int) [.int p0] T n V := by
  have hX := Inv_XI h
  have hI : n ≤ 6 ∧ V 20 0 1 = nI n := ⟨h.1.1, h.1.2.2.1⟩
  have hn6 := h.1.1
  by_cases h0 : okP 2 p0
  · rcases okC_01 h0 with e | e
    · subst e
      have hW := Inv_SW h (SM_out (x := V 4 0 1) (SM_refl V))
      refine ⟨0, V 34 0 0, up (V) 60 0 0 (V 4 0 1), thr (up V 60 0 0 (V 4 0 1)) 0, 3, 2, 0, 0, T, ⟨by decide, by decide, by decide, by decide, by omega⟩, fun z => wr_tinCount _ (V 4 0 1) rfl rfl (c_tinCount0), fun z => c_M_tinCount 0 (q := 0) (by decide) rfl, thr_at, fun _ => ?_, Inv_SM h (SM_thr (SM_out (SM_refl V)))⟩
      exact thr_60.trans ((IE_cnt h.2.2.2.2 (show 0 < 2 by decide)).2.2.2.1.trans (IE_cnt h.2.2.2.2 (show 0 < 2 by decide)).2.2.2.2.1.symm)
    · subst e
      have hW := Inv_SW h (SM_out (x := V 4 1 1) (SM_refl V))
      refine ⟨0, V 34 0 1, up (V) 60 0 0 (V 4 1 1), thr (up V 60 0 0 (V 4 1 1)) 0, 3, 2, 0, 0, T, ⟨by decide, by decide, by decide, by decide, by omega⟩, fun z => wr_tinCount _ (V 4 1 1) rfl rfl (c_tinCount1), fun z => c_M_tinCount 1 (q := 1) (by decide) rfl, thr_at, fun _ => ?_, Inv_SM h (SM_thr (SM_out (SM_refl V)))⟩
      exact thr_60.trans ((IE_cnt h.2.2.2.2 (show 1 < 2 by decide)).2.2.2.1.trans (IE_cnt h.2.2.2.2 (show 1 < 2 by decide)).2.2.2.2.1.symm)
  · exact ⟨1, 0, V, thr V 1, 3, 2, 1, 6, T, ⟨by decide, by decide, by decide, by decide, by omega⟩, fun z => wx_tinCount_1 _ rfl (c_tinCountx1 p0 (okC h0)), fun z => c_M_tinCountx1 p0 h0, thr_at, fun w => absurd w (by decide), Inv_SM h (SM_thr (SM_refl V))⟩
theorem case_paintLeft (h : Inv T n V V) (p0 : Int32) : Case l D ca q0 sa ad yL_paintLeft cL_paintLeft 4 hL_paintLeft yX6_paintLeft cX6_paintLeft 4 (some .int) [.int p0] T n V := by
  have hX := Inv_XI h
  have hI : n ≤ 6 ∧ V 20 0 1 = nI n := ⟨h.1.1, h.1.2.2.1⟩
  have hn6 := h.1.1
  by_cases h0 : okP 2 p0
  · rcases okC_01 h0 with e | e
    · subst e
      have hW := Inv_SW h (SM_out (x := sumT (tcon V 0) (tn (V 4 0 1))) (SM_refl V))
      have t := IE_cnt hW.2.2.2.2 (show 0 < 2 by decide)
      refine ⟨0, _, up (V) 60 0 0 (sumT (tcon V 0) (tn (V 4 0 1))), thr (up V 60 0 0 (sumT (tcon V 0) (tn (V 4 0 1)))) 0, 3, 2, 0, 0, T, ⟨by decide, by decide, by decide, by decide, by omega⟩, fun z => wr_paintLeft _ (sumT (tcon V 0) (tn (V 4 0 1))) rfl rfl (c_paintLeft0 hX), fun z => c_M_paintLeft 0 (q := 0) (by decide) rfl t.2.2.2.2.1 t.2.1, thr_at, fun _ => ?_, Inv_SM h (SM_thr (SM_out (SM_refl V)))⟩
      exact thr_60.trans (sumT_congr _ (fun j hj => t.2.2.2.2.2 j hj)).symm
    · subst e
      have hW := Inv_SW h (SM_out (x := sumT (tcon V 1) (tn (V 4 1 1))) (SM_refl V))
      have t := IE_cnt hW.2.2.2.2 (show 1 < 2 by decide)
      refine ⟨0, _, up (V) 60 0 0 (sumT (tcon V 1) (tn (V 4 1 1))), thr (up V 60 0 0 (sumT (tcon V 1) (tn (V 4 1 1)))) 0, 3, 2, 0, 0, T, ⟨by decide, by decide, by decide, by decide, by omega⟩, fun z => wr_paintLeft _ (sumT (tcon V 1) (tn (V 4 1 1))) rfl rfl (c_paintLeft1 hX), fun z => c_M_paintLeft 1 (q := 1) (by decide) rfl t.2.2.2.2.1 t.2.1, thr_at, fun _ => ?_, Inv_SM h (SM_thr (SM_out (SM_refl V)))⟩
      exact thr_60.trans (sumT_congr _ (fun j hj => t.2.2.2.2.2 j hj)).symm
  · exact ⟨1, 0, V, thr V 1, 3, 2, 1, 6, T, ⟨by decide, by decide, by decide, by decide, by omega⟩, fun z => wx_paintLeft_1 _ rfl (c_paintLeftx1 p0 (okC h0)), fun z => c_M_paintLeftx1 p0 h0, thr_at, fun w => absurd w (by decide), Inv_SM h (SM_thr (SM_refl V))⟩
theorem case_oldestTin (h : Inv T n V V) (p0 : Int32) : Case l D ca q0 sa ad yL_oldestTin cL_oldestTin 4 hL_oldestTin yX6_oldestTin cX6_oldestTin 2 (some .int) [.int p0] T n V := by
  have hX := Inv_XI h
  have hI : n ≤ 6 ∧ V 20 0 1 = nI n := ⟨h.1.1, h.1.2.2.1⟩
  have hn6 := h.1.1
  by_cases h0 : okP 2 p0
  · rcases okC_01 h0 with e | e
    · subst e
      have t := IE_cnt h.2.2.2.2 (show 0 < 2 by decide)
      by_cases h1 : V 4 0 1 = 0
      · exact ⟨2, 0, V, thr (thr V 0) 2, 3, 2, 1, 6, T, ⟨by decide, by decide, by decide, by decide, by omega⟩, fun z => wx_oldestTin_2 _ rfl (c_oldestTin0x2 h1), fun z => c_M_oldestTinx2 0 (q := 0) (by decide) rfl (t.2.2.2.2.1.trans (t.2.2.2.1.symm.trans h1)), thr_at, fun w => absurd w (by decide), Inv_SM h (SM_thr (SM_thr (SM_refl V)))⟩
      · have hp : 0 < tn (V 4 0 1) := by
          rcases Nat.eq_zero_or_pos (tn (V 4 0 1)) with z | z
          · exact absurd (t.1.trans (by rw [z]; rfl)) h1
          · exact z
        have hW := Inv_SW h (SM_out (x := V 5 0 0) (SM_refl V))
        refine ⟨0, V 35 0 (12 * 0), up (V) 60 0 0 (V 5 0 0), thr (up V 60 0 0 (V 5 0 0)) 0, 3, 2, 0, 0, T, ⟨by decide, by decide, by decide, by decide, by omega⟩, fun z => wr_oldestTin _ (V 5 0 0) rfl rfl (c_oldestTin0 h1), fun z => c_M_oldestTin 0 (q := 0) (by decide) rfl (fun z => h1 (t.2.2.2.1.trans (t.2.2.2.2.1.symm.trans z))), thr_at, fun _ => ?_, Inv_SM h (SM_thr (SM_out (SM_refl V)))⟩
        exact thr_60.trans (t.2.2.2.2.2 0 hp).symm
    · subst e
      have t := IE_cnt h.2.2.2.2 (show 1 < 2 by decide)
      by_cases h1 : V 4 1 1 = 0
      · exact ⟨2, 0, V, thr (thr V 0) 2, 3, 2, 1, 6, T, ⟨by decide, by decide, by decide, by decide, by omega⟩, fun z => wx_oldestTin_2 _ rfl (c_oldestTin1x2 h1), fun z => c_M_oldestTinx2 1 (q := 1) (by decide) rfl (t.2.2.2.2.1.trans (t.2.2.2.1.symm.trans h1)), thr_at, fun w => absurd w (by decide), Inv_SM h (SM_thr (SM_thr (SM_refl V)))⟩
      · have hp : 0 < tn (V 4 1 1) := by
          rcases Nat.eq_zero_or_pos (tn (V 4 1 1)) with z | z
          · exact absurd (t.1.trans (by rw [z]; rfl)) h1
          · exact z
        have hW := Inv_SW h (SM_out (x := V 5 1 0) (SM_refl V))
        refine ⟨0, V 35 0 (12 * 1), up (V) 60 0 0 (V 5 1 0), thr (up V 60 0 0 (V 5 1 0)) 0, 3, 2, 0, 0, T, ⟨by decide, by decide, by decide, by decide, by omega⟩, fun z => wr_oldestTin _ (V 5 1 0) rfl rfl (c_oldestTin1 h1), fun z => c_M_oldestTin 1 (q := 1) (by decide) rfl (fun z => h1 (t.2.2.2.1.trans (t.2.2.2.2.1.symm.trans z))), thr_at, fun _ => ?_, Inv_SM h (SM_thr (SM_out (SM_refl V)))⟩
        exact thr_60.trans (t.2.2.2.2.2 0 hp).symm
  · exact ⟨1, 0, V, thr V 1, 3, 2, 1, 6, T, ⟨by decide, by decide, by decide, by decide, by omega⟩, fun z => wx_oldestTin_1 _ rfl (c_oldestTinx1 p0 (okC h0)), fun z => c_M_oldestTinx1 p0 h0, thr_at, fun w => absurd w (by decide), Inv_SM h (SM_thr (SM_refl V))⟩
theorem case_waitingPier (h : Inv T n V V) (p0 : Int32) : Case l D ca q0 sa ad yL_waitingPier cL_waitingPier 4 hL_waitingPier yX6_waitingPier cX6_waitingPier 3 (some .int) [.int p0] T n V := by
  have hX := Inv_XI h
  have hI : n ≤ 6 ∧ V 20 0 1 = nI n := ⟨h.1.1, h.1.2.2.1⟩
  have hn6 := h.1.1
  obtain ⟨g, hg⟩ : ∃ g, fidx (wai (xo V) (xr V) n p0) n = g := ⟨_, rfl⟩
  by_cases h1 : g < n
  · have hs : SM V (up V 60 0 0 (nI g)) := SM_out (SM_refl V)
    have hW := Inv_SW h hs
    have hf : fres (wai (yo (up V 60 0 0 (nI g))) (yr (up V 60 0 0 (nI g))) n p0) n = nI g := fres_lt ((first_rel hW p0).trans hg) h1
    refine ⟨0, _, up (V) 60 0 0 (nI g), _, 4, 3, 0, 0, T, ⟨by decide, by decide, by decide, by decide, by omega⟩, fun z => wr_waitingPier _ (nI g) rfl rfl (c_waitingPier p0 hX hg h1), fun z => c_M_waitingPier p0 ⟨hn6, hW.1.2.2.1⟩ (fun q => nI_neg1 (n := g) (by omega) (hf.symm.trans q)), thr_at, fun _ => ?_, Inv_SM h (SM_thr hs)⟩
    exact thr_60.trans hf.symm
  · exact ⟨1, 0, V, thr V 1, 4, 3, 1, 6, T, ⟨by decide, by decide, by decide, by decide, by omega⟩, fun z => wx_waitingPier_1 _ rfl (c_waitingPierx p0 hX (by rw [hg]; exact h1)), fun z => c_M_waitingPierx p0 hI (fres_no (by rw [first_rel h p0, hg]; exact h1)), thr_at, fun w => absurd w (by decide), Inv_SM h (SM_thr (SM_refl V))⟩
theorem case_lineState (h : Inv T n V V) (p0 p1 : Int32) : Case l D ca q0 sa ad yL_lineState cL_lineState 5 hL_lineState yX6_lineState cX6_lineState 3 (some .int) [.int p0, .int p1] T n V := by
  have hX := Inv_XI h
  have hI : n ≤ 6 ∧ V 20 0 1 = nI n := ⟨h.1.1, h.1.2.2.1⟩
  have hn6 := h.1.1
  by_cases h0 : okP n p0
  · obtain ⟨a, ha, hx⟩ := h0
    have c := ID_cnt h.2.2.2.1 ha
    by_cases h1 : okP (tn (V 6 a 3)) p1
    · obtain ⟨j, hj, hy⟩ := h1
      have hs : SM V (up V 60 0 0 (V 16 a j)) := SM_out (SM_refl V)
      have hW := Inv_SW h hs
      have c2 := ID_cnt hW.2.2.2.1 ha
      refine ⟨0, _, up (V) 60 0 0 (V 16 a j), _, 4, 3, 0, 0, T, ⟨by decide, by decide, by decide, by decide, by omega⟩, fun z => wr_lineState _ _ (V 16 a j) rfl rfl (c_lineState p0 p1 hX ha hx hy hj), fun z => c_M_lineState p0 p1 ⟨hn6, hW.1.2.2.1⟩ ha hx c2.2.2.2.2.1 c2.2.1 hj hy, thr_at, fun _ => ?_, Inv_SM h (SM_thr (SM_thr hs))⟩
      exact (show thr (thr (up V 60 0 0 (V 16 a j)) 0) 0 60 0 0 = V 16 a j by simp [thr, up]).trans ((c2.2.2.2.2.2.2.2.2 j hj).2.2.2.2.1).symm
    · exact ⟨1, 0, V, thr (thr V 0) 1, 4, 3, 1, 6, T, ⟨by decide, by decide, by decide, by decide, by omega⟩, fun z => wx_lineState_1 _ _ rfl (c_lineStatex2 p0 p1 hX ha hx h1), fun z => c_M_lineStatex2 p0 p1 hI ha hx c.2.2.2.2.1 c.2.1 h1, thr_at, fun w => absurd w (by decide), Inv_SM h (SM_thr (SM_thr (SM_refl V)))⟩
  · exact ⟨1, 0, V, thr V 1, 4, 3, 1, 6, T, ⟨by decide, by decide, by decide, by decide, by omega⟩, fun z => wx_lineState_1 _ _ rfl (c_lineStatex1 p0 p1 hX h0), fun z => c_M_lineStatex1 p0 p1 hI h0, thr_at, fun w => absurd w (by decide), Inv_SM h (SM_thr (SM_refl V))⟩
theorem case_lineMinute (h : Inv T n V V) (p0 p1 : Int32) : Case l D ca q0 sa ad yL_lineMinute cL_lineMinute 5 hL_lineMinute yX6_lineMinute cX6_lineMinute 3 (some .int) [.int p0, .int p1] T n V := by
  have hX := Inv_XI h
  have hI : n ≤ 6 ∧ V 20 0 1 = nI n := ⟨h.1.1, h.1.2.2.1⟩
  have hn6 := h.1.1
  by_cases h0 : okP n p0
  · obtain ⟨a, ha, hx⟩ := h0
    have c := ID_cnt h.2.2.2.1 ha
    by_cases h1 : okP (tn (V 6 a 3)) p1
    · obtain ⟨j, hj, hy⟩ := h1
      have cl := c.2.2.2.2.2.2.2.2 j hj
      by_cases h2 : V 16 a j = 0
      · exact ⟨2, 0, V, thr (thr (thr V 0) 0) 2, 5, 4, 1, 6, T, ⟨by decide, by decide, by decide, by decide, by omega⟩, fun z => wx_lineMinute_2 _ _ rfl (c_lineMinutex3 p0 p1 hX ha hx hy hj h2), fun z => c_M_lineMinutex3 p0 p1 hI ha hx c.2.2.2.2.1 c.2.1 hj hy (cl.2.2.2.2.1.trans h2), thr_at, fun w => absurd w (by decide), Inv_SM h (SM_thr (SM_thr (SM_thr (SM_refl V))))⟩
      · have hs : SM V (up V 60 0 0 (V 7 a j)) := SM_out (SM_refl V)
        have hW := Inv_SW h hs
        have c2 := ID_cnt hW.2.2.2.1 ha
        have cl2 := c2.2.2.2.2.2.2.2.2 j hj
        refine ⟨0, _, up (V) 60 0 0 (V 7 a j), _, 5, 4, 0, 0, T, ⟨by decide, by decide, by decide, by decide, by omega⟩, fun z => wr_lineMinute _ _ (V 7 a j) rfl rfl (c_lineMinute p0 p1 hX ha hx hy hj h2), fun z => c_M_lineMinute p0 p1 ⟨hn6, hW.1.2.2.1⟩ ha hx c2.2.2.2.2.1 c2.2.1 hj hy (fun z => h2 (cl2.2.2.2.2.1.symm.trans z)), thr_at, fun _ => ?_, Inv_SM h (SM_thr (SM_thr hs))⟩
        exact (show thr (thr (up V 60 0 0 (V 7 a j)) 0) 0 60 0 0 = V 7 a j by simp [thr, up]).trans (cl2.2.2.1).symm
    · exact ⟨1, 0, V, thr (thr V 0) 1, 5, 4, 1, 6, T, ⟨by decide, by decide, by decide, by decide, by omega⟩, fun z => wx_lineMinute_1 _ _ rfl (c_lineMinutex2 p0 p1 hX ha hx h1), fun z => c_M_lineMinutex2 p0 p1 hI ha hx c.2.2.2.2.1 c.2.1 h1, thr_at, fun w => absurd w (by decide), Inv_SM h (SM_thr (SM_thr (SM_refl V)))⟩
  · exact ⟨1, 0, V, thr V 1, 5, 4, 1, 6, T, ⟨by decide, by decide, by decide, by decide, by omega⟩, fun z => wx_lineMinute_1 _ _ rfl (c_lineMinutex1 p0 p1 hX h0), fun z => c_M_lineMinutex1 p0 p1 hI h0, thr_at, fun w => absurd w (by decide), Inv_SM h (SM_thr (SM_refl V))⟩
theorem case_lineHeight (h : Inv T n V V) (p0 p1 : Int32) : Case l D ca q0 sa ad yL_lineHeight cL_lineHeight 5 hL_lineHeight yX6_lineHeight cX6_lineHeight 3 (some .int) [.int p0, .int p1] T n V := by
  have hX := Inv_XI h
  have hI : n ≤ 6 ∧ V 20 0 1 = nI n := ⟨h.1.1, h.1.2.2.1⟩
  have hn6 := h.1.1
  by_cases h0 : okP n p0
  · obtain ⟨a, ha, hx⟩ := h0
    have c := ID_cnt h.2.2.2.1 ha
    by_cases h1 : okP (tn (V 6 a 3)) p1
    · obtain ⟨j, hj, hy⟩ := h1
      have cl := c.2.2.2.2.2.2.2.2 j hj
      by_cases h2 : V 16 a j = 0
      · exact ⟨2, 0, V, thr (thr (thr V 0) 0) 2, 5, 4, 1, 6, T, ⟨by decide, by decide, by decide, by decide, by omega⟩, fun z => wx_lineHeight_2 _ _ rfl (c_lineHeightx3 p0 p1 hX ha hx hy hj h2), fun z => c_M_lineHeightx3 p0 p1 hI ha hx c.2.2.2.2.1 c.2.1 hj hy (cl.2.2.2.2.1.trans h2), thr_at, fun w => absurd w (by decide), Inv_SM h (SM_thr (SM_thr (SM_thr (SM_refl V))))⟩
      · have hs : SM V (up V 60 0 0 (V 8 a j)) := SM_out (SM_refl V)
        have hW := Inv_SW h hs
        have c2 := ID_cnt hW.2.2.2.1 ha
        have cl2 := c2.2.2.2.2.2.2.2.2 j hj
        refine ⟨0, _, up (V) 60 0 0 (V 8 a j), _, 5, 4, 0, 0, T, ⟨by decide, by decide, by decide, by decide, by omega⟩, fun z => wr_lineHeight _ _ (V 8 a j) rfl rfl (c_lineHeight p0 p1 hX ha hx hy hj h2), fun z => c_M_lineHeight p0 p1 ⟨hn6, hW.1.2.2.1⟩ ha hx c2.2.2.2.2.1 c2.2.1 hj hy (fun z => h2 (cl2.2.2.2.2.1.symm.trans z)), thr_at, fun _ => ?_, Inv_SM h (SM_thr (SM_thr hs))⟩
        exact (show thr (thr (up V 60 0 0 (V 8 a j)) 0) 0 60 0 0 = V 8 a j by simp [thr, up]).trans (cl2.2.2.2.1).symm
    · exact ⟨1, 0, V, thr (thr V 0) 1, 5, 4, 1, 6, T, ⟨by decide, by decide, by decide, by decide, by omega⟩, fun z => wx_lineHeight_1 _ _ rfl (c_lineHeightx2 p0 p1 hX ha hx h1), fun z => c_M_lineHeightx2 p0 p1 hI ha hx c.2.2.2.2.1 c.2.1 h1, thr_at, fun w => absurd w (by decide), Inv_SM h (SM_thr (SM_thr (SM_refl V)))⟩
  · exact ⟨1, 0, V, thr V 1, 5, 4, 1, 6, T, ⟨by decide, by decide, by decide, by decide, by omega⟩, fun z => wx_lineHeight_1 _ _ rfl (c_lineHeightx1 p0 p1 hX h0), fun z => c_M_lineHeightx1 p0 p1 hI h0, thr_at, fun w => absurd w (by decide), Inv_SM h (SM_thr (SM_refl V))⟩
theorem rg_o {U : jV} {a k i j : Nat} (h1 : ¬ k = 51) (h2 : ¬ k = 52) (h3 : ¬ (k = 20 ∧ j = 29)) : rgV U a k i j = U k i j := by
  unfold rgV; split
  · exact tab_o h1 h2 h3
  · rfl
theorem case_isRight (h : Inv T n V V) (hT : T ≤ 99999) (p0 : Int32) : Case l D ca q0 sa ad yL_isRight cL_isRight 4 hL_isRight yX6_isRight cX6_isRight 2 (some .boolean) [.int p0] T n V := by
  have hX := Inv_XI h
  have hI : n ≤ 6 ∧ V 20 0 1 = nI n := ⟨h.1.1, h.1.2.2.1⟩
  have hn6 := h.1.1
  by_cases h0 : okP n p0
  · obtain ⟨a, ha, hx⟩ := h0
    have hs : SM V (up (shwV V a) 60 0 0 (shwB V a)) := SM_out (SM_shw (SM_refl V))
    have hW := Inv_SW h hs
    have r := right_rel (Inv_thr (x := 0) hW) hT ha
    refine ⟨0, _, up (shwV V a) 60 0 0 (shwB V a), _, 5, 4, 0, 0, T, ⟨by decide, by decide, by decide, by decide, by omega⟩, fun z => wr_isRight _ (shwB V a) (by rw [r]; exact bI_01 _) rfl rfl (c_isRight p0 hX ha hx), fun z => c_M_isRight p0 ⟨hn6, hW.1.2.2.1⟩ ha hx (IB_YR hW.2.1 ha) (ID_Ycnt hW.2.2.2.1 ha).2, (rg_o (by decide) (by decide) (by omega)).trans thr_at, fun _ => ?_, Inv_SM h (SM_rg (SM_thr hs))⟩
    exact (rg_o (by decide) (by decide) (by omega)).trans (thr_60.trans r)
  · exact ⟨1, 0, V, thr V 1, 5, 4, 1, 6, T, ⟨by decide, by decide, by decide, by decide, by omega⟩, fun z => wx_isRight_1 _ rfl (c_isRightx1 p0 hX h0), fun z => c_M_isRightx1 p0 hI h0, thr_at, fun w => absurd w (by decide), Inv_SM h (SM_thr (SM_refl V))⟩
end C
