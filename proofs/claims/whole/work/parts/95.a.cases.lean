section C
variable {l : Launch} {D : va_G} {ca : Nat → ClassId} {q0 : Nat} {sa : Nat → Nat} {ad : jAd} {T n : Nat} {V : jV}
theorem thr_at {U : jV} {x : Int32} : thr U x 20 0 0 = x := by simp [thr, up]
theorem thr_60 {U : jV} {x v : Int32} : thr (up U 60 0 0 v) x 60 0 0 = v := by simp [thr, up]
theorem case_moonAge (h : Inv T n V V) (p0 : Int32) : Case l D ca q0 sa ad yL_moonAge cL_moonAge 4 hL_moonAge yX6_moonAge cX6_moonAge 2 (some .int) [.int p0] T n V := by
  by_cases h0 : 0 ≤ p0 ∧ p0 ≤ 99999
  · refine ⟨0, moonOf p0, up (V) 60 0 0 (moonOf p0), thr (up V 60 0 0 (moonOf p0)) 0, 3, 2, 0, 0, T, ⟨by decide, by decide, by decide, by decide, by omega⟩, fun z => wr_moonAge _ (moonOf p0) rfl rfl (c_moonAge p0 h0), fun z => c_M_moonAge p0 h0, thr_at, fun _ => ?_, Inv_SM h (SM_thr (SM_out (SM_refl V)))⟩
    exact thr_60
  · exact ⟨1, 0, V, thr V 1, 3, 2, 1, 6, T, ⟨by decide, by decide, by decide, by decide, by omega⟩, fun z => wx_moonAge_1 _ rfl (c_moonAgex p0 h0), fun z => c_M_moonAgex p0 h0, thr_at, fun w => absurd w (by decide), Inv_SM h (SM_thr (SM_refl V))⟩
theorem case_reportCount (h : Inv T n V V) (p0 : Int32) : Case l D ca q0 sa ad yL_reportCount cL_reportCount 4 hL_reportCount yX6_reportCount cX6_reportCount 2 (some .int) [.int p0] T n V := by
  have hX := Inv_XI h
  have hI : n ≤ 6 ∧ V 20 0 1 = nI n := ⟨h.1.1, h.1.2.2.1⟩
  have hn6 := h.1.1
  by_cases h0 : okP n p0
  · obtain ⟨a, ha, hx⟩ := h0
    have hW : Inv T n V (up V 60 0 0 (V 11 a 3)) := Inv_SW h (SM_out (SM_refl V))
    refine ⟨0, V 30 0 a, up (V) 60 0 0 (V 11 a 3), thr (up V 60 0 0 (V 11 a 3)) 0, 3, 2, 0, 0, T, ⟨by decide, by decide, by decide, by decide, by omega⟩, fun z => wr_reportCount _ (V 11 a 3) rfl rfl (c_reportCount p0 hX ha hx), fun z => c_M_reportCount p0 ⟨hn6, hW.1.2.2.1⟩ ha hx, thr_at, fun _ => ?_, Inv_SM h (SM_thr (SM_out (SM_refl V)))⟩
    exact thr_60.trans (IB_cnt h.2.1 ha).1.symm
  · exact ⟨1, 0, V, thr V 1, 3, 2, 1, 6, T, ⟨by decide, by decide, by decide, by decide, by omega⟩, fun z => wx_reportCount_1 _ rfl (c_reportCountx1 p0 hX h0), fun z => c_M_reportCountx1 p0 hI h0, thr_at, fun w => absurd w (by decide), Inv_SM h (SM_thr (SM_refl V))⟩
theorem case_boardDay (h : Inv T n V V) (p0 : Int32) : Case l D ca q0 sa ad yL_boardDay cL_boardDay 4 hL_boardDay yX6_boardDay cX6_boardDay 2 (some .int) [.int p0] T n V := by
  have hX := Inv_XI h
  have hI : n ≤ 6 ∧ V 20 0 1 = nI n := ⟨h.1.1, h.1.2.2.1⟩
  have hn6 := h.1.1
  by_cases h0 : okP n p0
  · obtain ⟨a, ha, hx⟩ := h0
    have hW : Inv T n V (up V 60 0 0 (V 15 a 3)) := Inv_SW h (SM_out (SM_refl V))
    refine ⟨0, V 42 0 a, up (V) 60 0 0 (V 15 a 3), thr (up V 60 0 0 (V 15 a 3)) 0, 3, 2, 0, 0, T, ⟨by decide, by decide, by decide, by decide, by omega⟩, fun z => wr_boardDay _ (V 15 a 3) rfl rfl (c_boardDay p0 hX ha hx), fun z => c_M_boardDay p0 ⟨hn6, hW.1.2.2.1⟩ ha hx, thr_at, fun _ => ?_, Inv_SM h (SM_thr (SM_out (SM_refl V)))⟩
    exact thr_60.trans (ID_cnt h.2.2.2.1 ha).2.2.2.2.2.1.symm
  · exact ⟨1, 0, V, thr V 1, 3, 2, 1, 6, T, ⟨by decide, by decide, by decide, by decide, by omega⟩, fun z => wx_boardDay_1 _ rfl (c_boardDayx1 p0 hX h0), fun z => c_M_boardDayx1 p0 hI h0, thr_at, fun w => absurd w (by decide), Inv_SM h (SM_thr (SM_refl V))⟩
theorem case_lineCount (h : Inv T n V V) (p0 : Int32) : Case l D ca q0 sa ad yL_lineCount cL_lineCount 4 hL_lineCount yX6_lineCount cX6_lineCount 2 (some .int) [.int p0] T n V := by
  have hX := Inv_XI h
  have hI : n ≤ 6 ∧ V 20 0 1 = nI n := ⟨h.1.1, h.1.2.2.1⟩
  have hn6 := h.1.1
  by_cases h0 : okP n p0
  · obtain ⟨a, ha, hx⟩ := h0
    have hW : Inv T n V (up V 60 0 0 (V 6 a 3)) := Inv_SW h (SM_out (SM_refl V))
    refine ⟨0, V 43 0 a, up (V) 60 0 0 (V 6 a 3), thr (up V 60 0 0 (V 6 a 3)) 0, 3, 2, 0, 0, T, ⟨by decide, by decide, by decide, by decide, by omega⟩, fun z => wr_lineCount _ (V 6 a 3) rfl rfl (c_lineCount p0 hX ha hx), fun z => c_M_lineCount p0 ⟨hn6, hW.1.2.2.1⟩ ha hx, thr_at, fun _ => ?_, Inv_SM h (SM_thr (SM_out (SM_refl V)))⟩
    exact thr_60.trans ((ID_cnt h.2.2.2.1 ha).1.trans (ID_Ycnt h.2.2.2.1 ha).1.symm)
  · exact ⟨1, 0, V, thr V 1, 3, 2, 1, 6, T, ⟨by decide, by decide, by decide, by decide, by omega⟩, fun z => wx_lineCount_1 _ rfl (c_lineCountx1 p0 hX h0), fun z => c_M_lineCountx1 p0 hI h0, thr_at, fun w => absurd w (by decide), Inv_SM h (SM_thr (SM_refl V))⟩
theorem case_dripsOf (h : Inv T n V V) (p0 : Int32) : Case l D ca q0 sa ad yL_dripsOf cL_dripsOf 4 hL_dripsOf yX6_dripsOf cX6_dripsOf 2 (some .int) [.int p0] T n V := by
  have hX := Inv_XI h
  have hI : n ≤ 6 ∧ V 20 0 1 = nI n := ⟨h.1.1, h.1.2.2.1⟩
  have hn6 := h.1.1
  by_cases h0 : okP n p0
  · obtain ⟨a, ha, hx⟩ := h0
    have hW : Inv T n V (up V 60 0 0 (V 15 a 4)) := Inv_SW h (SM_out (SM_refl V))
    refine ⟨0, V 44 0 a, up (V) 60 0 0 (V 15 a 4), thr (up V 60 0 0 (V 15 a 4)) 0, 3, 2, 0, 0, T, ⟨by decide, by decide, by decide, by decide, by omega⟩, fun z => wr_dripsOf _ (V 15 a 4) rfl rfl (c_dripsOf p0 hX ha hx), fun z => c_M_dripsOf p0 ⟨hn6, hW.1.2.2.1⟩ ha hx, thr_at, fun _ => ?_, Inv_SM h (SM_thr (SM_out (SM_refl V)))⟩
    exact thr_60.trans (ID_cnt h.2.2.2.1 ha).2.2.2.2.2.2.2.1.symm
  · exact ⟨1, 0, V, thr V 1, 3, 2, 1, 6, T, ⟨by decide, by decide, by decide, by decide, by omega⟩, fun z => wx_dripsOf_1 _ rfl (c_dripsOfx1 p0 hX h0), fun z => c_M_dripsOfx1 p0 hI h0, thr_at, fun w => absurd w (by decide), Inv_SM h (SM_thr (SM_refl V))⟩
theorem case_correctionOf (h : Inv T n V V) (p0 : Int32) : Case l D ca q0 sa ad yL_correctionOf cL_correctionOf 4 hL_correctionOf yX6_correctionOf cX6_correctionOf 2 (some .int) [.int p0] T n V := by
  have hX := Inv_XI h
  have hI : n ≤ 6 ∧ V 20 0 1 = nI n := ⟨h.1.1, h.1.2.2.1⟩
  have hn6 := h.1.1
  by_cases h0 : okP n p0
  · obtain ⟨a, ha, hx⟩ := h0
    have hW : Inv T n V (up V 60 0 0 (corr (xmin V a) (xtru V a) (tn (V 11 a 3)))) := Inv_SW h (SM_out (SM_refl V))
    refine ⟨0, _, up (V) 60 0 0 (corr (xmin V a) (xtru V a) (tn (V 11 a 3))), thr (up V 60 0 0 (corr (xmin V a) (xtru V a) (tn (V 11 a 3)))) 0, 3, 2, 0, 0, T, ⟨by decide, by decide, by decide, by decide, by omega⟩, fun z => wr_correctionOf _ (corr (xmin V a) (xtru V a) (tn (V 11 a 3))) rfl rfl (c_correctionOf p0 hX ha hx), fun z => c_M_correctionOf p0 ⟨hn6, hW.1.2.2.1⟩ ha hx (QR_YR (IB_cnt hW.2.1 ha).2.1), thr_at, fun _ => ?_, Inv_SM h (SM_thr (SM_out (SM_refl V)))⟩
    exact thr_60.trans (QR_corr (IB_cnt hW.2.1 ha).2.1).symm
  · exact ⟨1, 0, V, thr V 1, 3, 2, 1, 6, T, ⟨by decide, by decide, by decide, by decide, by omega⟩, fun z => wx_correctionOf_1 _ rfl (c_correctionOfx1 p0 hX h0), fun z => c_M_correctionOfx1 p0 hI h0, thr_at, fun w => absurd w (by decide), Inv_SM h (SM_thr (SM_refl V))⟩
theorem case_unreadableLines (h : Inv T n V V) (p0 : Int32) : Case l D ca q0 sa ad yL_unreadableLines cL_unreadableLines 4 hL_unreadableLines yX6_unreadableLines cX6_unreadableLines 2 (some .int) [.int p0] T n V := by
  have hX := Inv_XI h
  have hI : n ≤ 6 ∧ V 20 0 1 = nI n := ⟨h.1.1, h.1.2.2.1⟩
  have hn6 := h.1.1
  by_cases h0 : okP n p0
  · obtain ⟨a, ha, hx⟩ := h0
    have hW : Inv T n V (up V 60 0 0 (umk V a (tn (V 6 a 3)))) := Inv_SW h (SM_out (SM_refl V))
    refine ⟨0, _, up (V) 60 0 0 (umk V a (tn (V 6 a 3))), thr (up V 60 0 0 (umk V a (tn (V 6 a 3)))) 0, 3, 2, 0, 0, T, ⟨by decide, by decide, by decide, by decide, by omega⟩, fun z => wr_unreadableLines _ (umk V a (tn (V 6 a 3))) rfl rfl (c_unreadableLines p0 hX ha hx), fun z => c_M_unreadableLines p0 ⟨hn6, hW.1.2.2.1⟩ ha hx (ID_Ycnt hW.2.2.2.1 ha).1 (ID_cnt hW.2.2.2.1 ha).2.1, thr_at, fun _ => ?_, Inv_SM h (SM_thr (SM_out (SM_refl V)))⟩
    exact thr_60.trans (um_rel _ (fun j hj => ((ID_cnt (Inv_thr (x := 0) hW).2.2.2.1 ha).2.2.2.2.2.2.2.2 j hj).2.2.2.2.1)).symm
  · exact ⟨1, 0, V, thr V 1, 3, 2, 1, 6, T, ⟨by decide, by decide, by decide, by decide, by omega⟩, fun z => wx_unreadableLines_1 _ rfl (c_unreadableLinesx1 p0 hX h0), fun z => c_M_unreadableLinesx1 p0 hI h0, thr_at, fun w => absurd w (by decide), Inv_SM h (SM_thr (SM_refl V))⟩
theorem case_trustOf (h : Inv T n V V) (p0 : Int32) : Case l D ca q0 sa ad yL_trustOf cL_trustOf 4 hL_trustOf yX6_trustOf cX6_trustOf 2 (some .int) [.int p0] T n V := by
  by_cases h0 : okP 6 p0
  · obtain ⟨f, hf, hx⟩ := h0
    refine ⟨0, V 29 0 f, up (V) 60 0 0 (V 2 0 f), thr (up V 60 0 0 (V 2 0 f)) 0, 2, 2, 0, 0, T, ⟨by decide, by decide, by decide, by decide, by omega⟩, fun z => wr_trustOf _ (V 2 0 f) rfl rfl (c_trustOf p0 hf hx), fun z => c_M_trustOf p0 hf hx, thr_at, fun _ => ?_, Inv_SM h (SM_thr (SM_out (SM_refl V)))⟩
    exact thr_60.trans (h.2.1.2.1 f hf).symm
  · exact ⟨1, 0, V, thr V 1, 2, 2, 1, 6, T, ⟨by decide, by decide, by decide, by decide, by omega⟩, fun z => wx_trustOf_1 _ rfl (c_trustOfx1 p0 h0), fun z => c_M_trustOfx p0 h0, thr_at, fun w => absurd w (by decide), Inv_SM h (SM_thr (SM_refl V))⟩
theorem case_rangeOf (h : Inv T n V V) (p0 p1 : Int32) : Case l D ca q0 sa ad yL_rangeOf cL_rangeOf 5 hL_rangeOf yX6_rangeOf cX6_rangeOf 3 (some .int) [.int p0, .int p1] T n V := by
  have hX := Inv_XI h
  have hI : n ≤ 6 ∧ V 20 0 1 = nI n := ⟨h.1.1, h.1.2.2.1⟩
  have hn6 := h.1.1
  by_cases h0 : okP n p0
  · obtain ⟨a, ha, hx⟩ := h0
    by_cases h1 : 0 ≤ p1 ∧ p1 ≤ 99999
    · have hW : Inv T n V (up V 60 0 0 (rangeX V a p1)) := Inv_SW h (SM_out (SM_refl V))
      refine ⟨0, _, up (V) 60 0 0 (rangeX V a p1), thr (up V 60 0 0 (rangeX V a p1)) 0, 3, 2, 0, 0, T, ⟨by decide, by decide, by decide, by decide, by omega⟩, fun z => wr_rangeOf _ _ (rangeX V a p1) rfl rfl (c_rangeOf p0 p1 hX ha hx h1), fun z => c_M_rangeOf p0 p1 ⟨hn6, hW.1.2.2.1⟩ ha hx h1, thr_at, fun _ => ?_, Inv_SM h (SM_thr (SM_out (SM_refl V)))⟩
      exact thr_60.trans (IA_range hW.1 ha p1).symm
    · exact ⟨2, 0, V, thr (thr V 0) 2, 3, 2, 1, 6, T, ⟨by decide, by decide, by decide, by decide, by omega⟩, fun z => wx_rangeOf_2 _ _ rfl (c_rangeOfx2 p0 p1 hX ha hx h1), fun z => c_M_rangeOfx2 p0 p1 hI ha hx h1, thr_at, fun w => absurd w (by decide), Inv_SM h (SM_thr (SM_thr (SM_refl V)))⟩
  · exact ⟨1, 0, V, thr V 1, 3, 2, 1, 6, T, ⟨by decide, by decide, by decide, by decide, by omega⟩, fun z => wx_rangeOf_1 _ _ rfl (c_rangeOfx1 p0 p1 hX h0), fun z => c_M_rangeOfx1 p0 p1 hI h0, thr_at, fun w => absurd w (by decide), Inv_SM h (SM_thr (SM_refl V))⟩
end C
