section C
variable {l : Launch} {D : va_G} {ca : Nat → ClassId} {q0 : Nat} {sa : Nat → Nat} {ad : jAd} {T n : Nat} {V : jV}
theorem upk_o {U : jV} {x : Int32} {k' i' j' k i j : Nat} (h : ¬ (k = k' ∧ j = j')) : up U k' i' j' x k i j = U k i j := by unfold up; rw [if_neg (fun q => h ⟨q.1, q.2.2⟩)]
theorem addV_o {U : jV} {x : Int32} {q c k i j : Nat} (h : ¬ k = 4) (h2 : ¬ k = 5) : addV U q c x k i j = U k i j := by unfold addV up; rw [if_neg (fun q => h q.1), if_neg (fun q => h2 q.1)]
theorem case_deliverTin (h : Inv T n V V) (p0 p1 : Int32) : Case l D ca q0 sa ad yL_deliverTin cL_deliverTin 5 hL_deliverTin yX6_deliverTin cX6_deliverTin 3 (some .int) [.int p0, .int p1] T n V := by
  have hX := Inv_XI h
  have hI : n ≤ 6 ∧ V 20 0 1 = nI n := ⟨h.1.1, h.1.2.2.1⟩
  have hn6 := h.1.1
  by_cases h0 : okP 2 p0
  · rcases okC_01 h0 with e | e
    · subst e
      by_cases hy : 1 ≤ p1 ∧ p1 ≤ 999
      · have t := IE_cnt h.2.2.2.2 (show 0 < 2 by decide)
        by_cases h12 : tn (V 4 0 1) < 12
        · have hG := Inv_go (v := V 4 0 1 + 1) (x := 0) h (X := addV V 0 (tn (V 4 0 1)) p1) (fun k i j z => addV_o (by omega) (by omega))
          have g := Inv_add (v := p1) hG (show 0 < 2 by decide) t.1 h12
          have tg := IE_cnt hG.2.2.2.2 (show 0 < 2 by decide)
          have g34 : ∀ U : jV, thr U 0 34 0 0 = U 34 0 0 := fun U => thr_o (by omega)
          rw [g34] at g
          refine ⟨0, _, up (addV V 0 (tn (V 4 0 1)) p1) 60 0 0 (V 4 0 1 + 1), _, 3, 2, 0, 0, T, ⟨by decide, by decide, by decide, by decide, by omega⟩, fun z => wr_deliverTin _ _ _ rfl rfl (c_deliverTin0 p1 hX hy h12), fun z => c_M_deliverTin 0 p1 (q := 0) (by decide) rfl hy ((g34 _).symm.trans tg.2.2.2.2.1) h12, ?_, fun _ => ?_, Inv_stop g (fun k i j z => (upk_o (by omega)).trans (upk_o (by omega)))⟩
          · exact (upk_o (by omega)).trans ((upk_o (by omega)).trans thr_at)
          · refine ((upk_o (by omega)).trans ((upk_o (by omega)).trans thr_60)).trans ?_
            rw [show up (addV V 0 (tn (V 4 0 1)) p1) 60 0 0 (V 4 0 1 + 1) 34 0 0 = nI (tn (V 4 0 1)) from (g34 _).symm.trans tg.2.2.2.2.1, ← t.1]
        · exact ⟨2, 0, V, thr (thr V 0) 2, 3, 2, 1, 6, T, ⟨by decide, by decide, by decide, by decide, by omega⟩, fun z => wx_deliverTin_2 _ _ rfl (c_deliverTin0x3 p1 hX hy h12), fun z => c_M_deliverTinx3 0 p1 (q := 0) (by decide) rfl hy (t.2.2.2.2.1.trans (by rw [show tn (V 4 0 1) = 12 by have := t.2.1; omega]; rfl)), thr_at, fun w => absurd w (by decide), Inv_SM h (SM_thr (SM_thr (SM_refl V)))⟩
      · exact ⟨1, 0, V, thr V 1, 3, 2, 1, 6, T, ⟨by decide, by decide, by decide, by decide, by omega⟩, fun z => wx_deliverTin_1 _ _ rfl (c_deliverTin0x2 p1 hy), fun z => c_M_deliverTinx2 0 p1 (q := 0) (by decide) rfl hy, thr_at, fun w => absurd w (by decide), Inv_SM h (SM_thr (SM_refl V))⟩
    · subst e
      by_cases hy : 1 ≤ p1 ∧ p1 ≤ 999
      · have t := IE_cnt h.2.2.2.2 (show 1 < 2 by decide)
        by_cases h12 : tn (V 4 1 1) < 12
        · have hG := Inv_go (v := V 4 1 1 + 1) (x := 0) h (X := addV V 1 (tn (V 4 1 1)) p1) (fun k i j z => addV_o (by omega) (by omega))
          have g := Inv_add (v := p1) hG (show 1 < 2 by decide) t.1 h12
          have tg := IE_cnt hG.2.2.2.2 (show 1 < 2 by decide)
          have g34 : ∀ U : jV, thr U 0 34 0 1 = U 34 0 1 := fun U => thr_o (by omega)
          rw [g34] at g
          refine ⟨0, _, up (addV V 1 (tn (V 4 1 1)) p1) 60 0 0 (V 4 1 1 + 1), _, 3, 2, 0, 0, T, ⟨by decide, by decide, by decide, by decide, by omega⟩, fun z => wr_deliverTin _ _ _ rfl rfl (c_deliverTin1 p1 hX hy h12), fun z => c_M_deliverTin 1 p1 (q := 1) (by decide) rfl hy ((g34 _).symm.trans tg.2.2.2.2.1) h12, ?_, fun _ => ?_, Inv_stop g (fun k i j z => (upk_o (by omega)).trans (upk_o (by omega)))⟩
          · exact (upk_o (by omega)).trans ((upk_o (by omega)).trans thr_at)
          · refine ((upk_o (by omega)).trans ((upk_o (by omega)).trans thr_60)).trans ?_
            rw [show up (addV V 1 (tn (V 4 1 1)) p1) 60 0 0 (V 4 1 1 + 1) 34 0 1 = nI (tn (V 4 1 1)) from (g34 _).symm.trans tg.2.2.2.2.1, ← t.1]
        · exact ⟨2, 0, V, thr (thr V 0) 2, 3, 2, 1, 6, T, ⟨by decide, by decide, by decide, by decide, by omega⟩, fun z => wx_deliverTin_2 _ _ rfl (c_deliverTin1x3 p1 hX hy h12), fun z => c_M_deliverTinx3 1 p1 (q := 1) (by decide) rfl hy (t.2.2.2.2.1.trans (by rw [show tn (V 4 1 1) = 12 by have := t.2.1; omega]; rfl)), thr_at, fun w => absurd w (by decide), Inv_SM h (SM_thr (SM_thr (SM_refl V)))⟩
      · exact ⟨1, 0, V, thr V 1, 3, 2, 1, 6, T, ⟨by decide, by decide, by decide, by decide, by omega⟩, fun z => wx_deliverTin_1 _ _ rfl (c_deliverTin1x2 p1 hy), fun z => c_M_deliverTinx2 1 p1 (q := 1) (by decide) rfl hy, thr_at, fun w => absurd w (by decide), Inv_SM h (SM_thr (SM_refl V))⟩
  · exact ⟨1, 0, V, thr V 1, 3, 2, 1, 6, T, ⟨by decide, by decide, by decide, by decide, by omega⟩, fun z => wx_deliverTin_1 _ _ rfl (c_deliverTinx1 p0 p1 (okC h0)), fun z => c_M_deliverTinx1 p0 p1 h0, thr_at, fun w => absurd w (by decide), Inv_SM h (SM_thr (SM_refl V))⟩
theorem case_order (h : Inv T n V V) (p0 p1 : Int32) : Case l D ca q0 sa ad yL_order cL_order 5 hL_order yX6_order cX6_order 3 (some .int) [.int p0, .int p1] T n V := by
  have hX := Inv_XI h
  have hI : n ≤ 6 ∧ V 20 0 1 = nI n := ⟨h.1.1, h.1.2.2.1⟩
  have hn6 := h.1.1
  by_cases h0 : okP n p0
  · obtain ⟨a, ha, hx⟩ := h0
    have e39 := (h.2.2.1 a (by omega)).1
    by_cases h1 : 0 ≤ p1 ∧ p1 ≤ 99999
    · by_cases h2 : V 3 0 a = -1
      · obtain ⟨d, hd, e⟩ := rng_nI (N := 99999) rfl (by decide) h1
        have hG := Inv_go (v := nI (obf (xo (up V 3 0 a p1)) (xr (up V 3 0 a p1)) a n)) (x := 0) h (X := up V 3 0 a p1) (fun k i j z => upk_o (by omega))
        have g := Inv_ord (x := p1) hG ha (Or.inr ⟨d, hd, e⟩)
        refine ⟨0, _, up (up V 3 0 a p1) 60 0 0 (nI (obf (xo (up V 3 0 a p1)) (xr (up V 3 0 a p1)) a n)), _, 3, 3, 0, 0, T, ⟨by decide, by decide, by decide, by decide, by omega⟩, fun z => wr_order _ _ _ rfl rfl (c_order p0 p1 hX ha hx h1 h2), fun z => c_M_order p0 p1 ⟨hn6, hG.1.2.2.1⟩ ha hx h1 (e39.trans h2), (upk_o (by omega)).trans thr_at, fun _ => ?_, Inv_stop g (fun k i j z => upk_o (by omega))⟩
        refine ((upk_o (by omega)).trans thr_60).trans ?_
        congr 1
        exact (obf_congr (n := n) (fun j hj => (g.2.2.1 j (by omega)).1) (fun j hj => (g.1.2.2.2 j hj).2.2.2.2.2) ha n (Nat.le_refl n)).symm
      · exact ⟨3, 0, V, thr (thr V 0) 3, 3, 3, 1, 6, T, ⟨by decide, by decide, by decide, by decide, by omega⟩, fun z => wx_order_3 _ _ rfl (c_orderx3 p0 p1 hX ha hx h1 h2), fun z => c_M_orderx3 p0 p1 hI ha hx h1 (fun z => h2 (e39.symm.trans z)), thr_at, fun w => absurd w (by decide), Inv_SM h (SM_thr (SM_thr (SM_refl V)))⟩
    · exact ⟨2, 0, V, thr (thr V 0) 2, 3, 3, 1, 6, T, ⟨by decide, by decide, by decide, by decide, by omega⟩, fun z => wx_order_2 _ _ rfl (c_orderx2 p0 p1 hX ha hx h1), fun z => c_M_orderx2 p0 p1 hI ha hx h1, thr_at, fun w => absurd w (by decide), Inv_SM h (SM_thr (SM_thr (SM_refl V)))⟩
  · exact ⟨1, 0, V, thr V 1, 3, 3, 1, 6, T, ⟨by decide, by decide, by decide, by decide, by omega⟩, fun z => wx_order_1 _ _ rfl (c_orderx1 p0 p1 hX h0), fun z => c_M_orderx1 p0 p1 hI h0, thr_at, fun w => absurd w (by decide), Inv_SM h (SM_thr (SM_refl V))⟩
theorem case_cancelOrder (h : Inv T n V V) (p0 : Int32) : Case l D ca q0 sa ad yL_cancelOrder cL_cancelOrder 4 hL_cancelOrder yX6_cancelOrder cX6_cancelOrder 3 (some .int) [.int p0] T n V := by
  have hX := Inv_XI h
  have hI : n ≤ 6 ∧ V 20 0 1 = nI n := ⟨h.1.1, h.1.2.2.1⟩
  have hn6 := h.1.1
  by_cases h0 : okP n p0
  · obtain ⟨a, ha, hx⟩ := h0
    have e39 := (h.2.2.1 a (by omega)).1
    by_cases h2 : V 3 0 a = -1
    · exact ⟨2, 0, V, thr (thr V 0) 2, 3, 3, 1, 6, T, ⟨by decide, by decide, by decide, by decide, by omega⟩, fun z => wx_cancelOrder_2 _ rfl (c_cancelOrderx2 p0 hX ha hx h2), fun z => c_M_cancelOrderx2 p0 hI ha hx (e39.trans h2), thr_at, fun w => absurd w (by decide), Inv_SM h (SM_thr (SM_thr (SM_refl V)))⟩
    · have hG := Inv_go (v := V 3 0 a) (x := 0) h (X := up V 3 0 a (-1)) (fun k i j z => upk_o (by omega))
      have g := Inv_ord (x := -1) hG ha (Or.inl rfl)
      refine ⟨0, V 39 0 a, up (up V 3 0 a (-1)) 60 0 0 (V 3 0 a), _, 3, 3, 0, 0, T, ⟨by decide, by decide, by decide, by decide, by omega⟩, fun z => wr_cancelOrder _ _ rfl rfl (c_cancelOrder p0 hX ha hx h2), fun z => c_M_cancelOrder p0 ⟨hn6, hG.1.2.2.1⟩ ha hx (fun z => h2 (e39.symm.trans z)), (upk_o (by omega)).trans thr_at, fun _ => ?_, Inv_stop g (fun k i j z => upk_o (by omega))⟩
      exact ((upk_o (by omega)).trans thr_60).trans e39.symm
  · exact ⟨1, 0, V, thr V 1, 3, 3, 1, 6, T, ⟨by decide, by decide, by decide, by decide, by omega⟩, fun z => wx_cancelOrder_1 _ rfl (c_cancelOrderx1 p0 hX h0), fun z => c_M_cancelOrderx1 p0 hI h0, thr_at, fun w => absurd w (by decide), Inv_SM h (SM_thr (SM_refl V))⟩
theorem case_giveUpJob (h : Inv T n V V) : Case l D ca q0 sa ad yL_giveUpJob cL_giveUpJob 3 hL_giveUpJob yX6_giveUpJob cX6_giveUpJob 1 (some .int) [] T n V := by
  have hX := Inv_XI h
  have hI : n ≤ 6 ∧ V 20 0 1 = nI n := ⟨h.1.1, h.1.2.2.1⟩
  have hn6 := h.1.1
  have e19 : V 20 0 19 = V 0 0 8 := h.2.2.2.1.2.2.1
  by_cases h2 : V 0 0 8 = -1
  · exact ⟨1, 0, V, thr V 1, 2, 1, 1, 6, T, ⟨by decide, by decide, by decide, by decide, by omega⟩, fun z => wx_giveUpJob_1  rfl (c_giveUpJobx h2), fun z => c_M_giveUpJobx (e19.trans h2), thr_at, fun w => absurd w (by decide), Inv_SM h (SM_thr (SM_refl V))⟩
  · obtain ⟨a, j, ha, e8, _, e20, eb, hj2, hz⟩ := JB_bln h h2
    have hG := Inv_go (v := nI (bln V a (tn (V 6 a 3)))) (x := 0) h (X := up V 0 0 8 (-1)) (fun k i j z => upk_o (by omega))
    have g := Inv_job hG
    refine ⟨0, V 20 0 20 + 1, up (up V 0 0 8 (-1)) 60 0 0 (nI (bln V a (tn (V 6 a 3)))), _, 2, 1, 0, 0, T, ⟨by decide, by decide, by decide, by decide, by omega⟩, fun z => wr_giveUpJob _ rfl rfl (c_giveUpJob hX e8 ha), fun z => c_M_giveUpJob (fun z => h2 (e19.symm.trans z)), (upk_o (by omega)).trans thr_at, fun _ => ?_, Inv_stop g (fun k i j z => upk_o (by omega))⟩
    refine ((upk_o (by omega)).trans thr_60).trans ?_
    rw [eb]
    exact (jx_add (b := 1) e20 rfl).symm
theorem case_addPier (h : Inv T n V V) (p0 p1 p2 p3 p4 : Int32) (hb : ¬ (okA p0 p1 p2 p3 p4 ∧ n < 6)) : Case l D ca q0 sa ad yL_addPier cL_addPier 8 hL_addPier yX6_addPier cX6_addPier 8 (some .int) [.int p0, .int p1, .int p2, .int p3, .int p4] T n V := by
  have hX := Inv_XI h
  have hI : n ≤ 6 ∧ V 20 0 1 = nI n := ⟨h.1.1, h.1.2.2.1⟩
  have hn6 := h.1.1
  by_cases h1 : 0 ≤ p0 ∧ p0 ≤ 744
  · by_cases h2 : 0 ≤ p1 ∧ p1 ≤ 999
    · by_cases h3 : 0 ≤ p2 ∧ p2 ≤ 999
      · by_cases h4 : 0 ≤ p3 ∧ p3 ≤ p2
        · by_cases h5 : 0 ≤ p4 ∧ p4 ≤ 9
          · have hA : okA p0 p1 p2 p3 p4 := ⟨h1, h2, h3, h4, h5⟩
            have h6 : n = 6 := by
              rcases Nat.lt_or_ge n 6 with q | q
              · exact absurd ⟨hA, q⟩ hb
              · omega
            exact ⟨2, 0, V, thr (thr V 0) 2, 4, 2, 1, 6, T, ⟨by decide, by decide, by decide, by decide, by omega⟩, fun z => wx_addPier_2 _ _ _ _ _ rfl (c_addPierx6 p0 p1 p2 p3 p4 hA h.1.2.1 h6), fun z => c_M_addPierx2 p0 p1 p2 p3 p4 hA (hI.2.trans (by rw [h6]; rfl)), thr_at, fun w => absurd w (by decide), Inv_SM h (SM_thr (SM_thr (SM_refl V)))⟩
          · exact ⟨1, 0, V, thr V 1, 4, 2, 1, 6, T, ⟨by decide, by decide, by decide, by decide, by omega⟩, fun z => wx_addPier_1 _ _ _ _ _ rfl (c_addPierx5 p0 p1 p2 p3 p4 h1 h2 h3 h4 h5), fun z => c_M_addPierx1 p0 p1 p2 p3 p4 (fun q => h5 q.2.2.2.2), thr_at, fun w => absurd w (by decide), Inv_SM h (SM_thr (SM_refl V))⟩
        · exact ⟨1, 0, V, thr V 1, 4, 2, 1, 6, T, ⟨by decide, by decide, by decide, by decide, by omega⟩, fun z => wx_addPier_1 _ _ _ _ _ rfl (c_addPierx4 p0 p1 p2 p3 p4 h1 h2 h3 h4), fun z => c_M_addPierx1 p0 p1 p2 p3 p4 (fun q => h4 q.2.2.2.1), thr_at, fun w => absurd w (by decide), Inv_SM h (SM_thr (SM_refl V))⟩
      · exact ⟨1, 0, V, thr V 1, 4, 2, 1, 6, T, ⟨by decide, by decide, by decide, by decide, by omega⟩, fun z => wx_addPier_1 _ _ _ _ _ rfl (c_addPierx3 p0 p1 p2 p3 p4 h1 h2 h3), fun z => c_M_addPierx1 p0 p1 p2 p3 p4 (fun q => h3 q.2.2.1), thr_at, fun w => absurd w (by decide), Inv_SM h (SM_thr (SM_refl V))⟩
    · exact ⟨1, 0, V, thr V 1, 4, 2, 1, 6, T, ⟨by decide, by decide, by decide, by decide, by omega⟩, fun z => wx_addPier_1 _ _ _ _ _ rfl (c_addPierx2 p0 p1 p2 p3 p4 h1 h2), fun z => c_M_addPierx1 p0 p1 p2 p3 p4 (fun q => h2 q.2.1), thr_at, fun w => absurd w (by decide), Inv_SM h (SM_thr (SM_refl V))⟩
  · exact ⟨1, 0, V, thr V 1, 4, 2, 1, 6, T, ⟨by decide, by decide, by decide, by decide, by omega⟩, fun z => wx_addPier_1 _ _ _ _ _ rfl (c_addPierx1 p0 p1 p2 p3 p4 h1), fun z => c_M_addPierx1 p0 p1 p2 p3 p4 (fun q => h1 q.1), thr_at, fun w => absurd w (by decide), Inv_SM h (SM_thr (SM_refl V))⟩
end C
