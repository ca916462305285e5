section C
variable {l : Launch} {D : va_G} {ca : Nat → ClassId} {q0 : Nat} {sa : Nat → Nat} {ad : jAd} {T n : Nat} {V : jV}
theorem Inv_go1 {T n : Nat} {V X : jV} {v : Int32} (h : Inv T n V V) (hX : ∀ k i j, 20 ≤ k → X k i j = V k i j) : Inv T n V (up X 60 0 0 v) :=
  Inv_W1 h (fun k j z1 z2 z3 => by rw [out_o (by omega), hX k 0 j z1])
theorem tu_hi {V : jV} {a g q u t k i j : Nat} (h : 20 ≤ k) : mrdV (up (tkV V q 5 u t) 0 0 9 (V 0 0 9 + 5)) a g (V 0 0 7) k i j = V k i j := by
  unfold mrdV up
  rw [if_neg (by omega), if_neg (by omega), if_neg (by omega)]
  exact tk_other (Or.inr (by omega))
theorem mrdY_lo {W : jV} {u k i j : Nat} (h : k < 20 ∨ k = 60 ∨ (k = 20 ∧ j = 0)) : mrdY W u k i j = W k i j := by
  unfold mrdY up
  rw [if_neg (by omega), if_neg (by omega), if_neg (by omega)]
theorem tkY_lo {W : jV} {q g k i j : Nat} {x : Int32} (h : k < 20 ∨ k = 60 ∨ (k = 20 ∧ j = 0)) : tkY W q x g k i j = W k i j := tk_o (by omega) (by omega) (by omega)
theorem case_touchUp (h : Inv T n V V) (p0 : Int32) : Case l D ca q0 sa ad yL_touchUp cL_touchUp 4 hL_touchUp yX6_touchUp cX6_touchUp 3 (some .int) [.int p0] T n V := by
  have hX := Inv_XI h
  have hI : n ≤ 6 ∧ V 20 0 1 = nI n := ⟨h.1.1, h.1.2.2.1⟩
  have hn6 := h.1.1
  by_cases h0 : okP n p0
  · obtain ⟨a, ha, hx⟩ := h0
    have c := ID_cnt h.2.2.2.1 ha
    obtain ⟨g, hs⟩ : ∃ g, fidx (spo V a) (tn (V 6 a 3)) = g := ⟨_, rfl⟩
    by_cases hg : g < tn (V 6 a 3)
    · have cl := c.2.2.2.2.2.2.2.2 g hg
      have hat := fidx_at (P := spo V a) (by rw [hs]; exact hg)
      rw [hs] at hat
      have hb0 : ¬ V 16 a g = 0 := by
        intro z
        unfold spo at hat
        rw [z] at hat
        exact absurd hat (by decide)
      by_cases hk : V 9 a g = 0
      · have t := IE_cnt h.2.2.2.2 (show 1 < 2 by decide)
        have hk1 : V 45 0 (4 * a + g) = nI 1 := by
          rw [cl.2.1]
          rw [hk]; rfl
        obtain ⟨u, hu⟩ : ∃ u, fidx (fun j => decide (5 ≤ V 5 1 j)) (tn (V 4 1 1)) = u := ⟨_, rfl⟩
        by_cases h3 : u < tn (V 4 1 1)
        · have hG1 := Inv_go1 (v := nI g) h (X := mrdV (up (tkV V 1 5 u (tn (V 4 1 1))) 0 0 9 (V 0 0 9 + 5)) a g (V 0 0 7)) (fun k i j z => tu_hi z)
          have hG := Inv_thr (x := 0) hG1
          have t1 := IE_cnt hG1.2.2.2.2 (show 1 < 2 by decide)
          have tg := IE_cnt hG.2.2.2.2 (show 1 < 2 by decide)
          have cg := ID_cnt hG1.2.2.2.1 ha
          have gg := Inv_touch hG ha hg (fun z => hb0 z) (show 1 < 2 by decide) tg.2.2 h3
          refine ⟨0, nI g, up (mrdV (up (tkV V 1 5 u (tn (V 4 1 1))) 0 0 9 (V 0 0 9 + 5)) a g (V 0 0 7)) 60 0 0 (nI g), _, 4, 3, 0, 0, T, ⟨by decide, by decide, by decide, by decide, by omega⟩, fun z => wr_touchUp _ _ rfl rfl (c_touchUp1 p0 hX ha hx hs hg hk hu h3), fun z => c_M_touchUp p0 ⟨hn6, hG1.1.2.2.1⟩ ha hx cg.2.2.2.2.1 cg.2.1 ((sp_rel (fun j hj => (cg.2.2.2.2.2.2.2.2 j hj).2.2.2.2.1)).trans hs) hg (q := 1) (by decide) ((out_o (by omega)).trans ((tu_hi (by omega)).trans hk1)) t1.2.2.2.2.1 t1.2.1 ((fidx_congr (fun j hj => by rw [t1.2.2.2.2.2 j hj])).trans hu) h3, ?_, fun _ => ?_, Inv_stop gg (fun k i j z => (mrdY_lo (by omega)).trans (tkY_lo (by omega)))⟩
          · exact (mrdY_lo (by omega)).trans ((tkY_lo (by omega)).trans thr_at)
          · exact (mrdY_lo (by omega)).trans ((tkY_lo (by omega)).trans thr_60)
        · exact ⟨3, 0, V, thr (thr V 0) 3, 4, 3, 1, 6, T, ⟨by decide, by decide, by decide, by decide, by omega⟩, fun z => wx_touchUp_3 _ rfl (c_touchUp1x3 p0 hX ha hx hs hg hk (by rw [hu]; exact h3)), fun z => c_M_touchUpx3 p0 hI ha hx c.2.2.2.2.1 c.2.1 ((sp_rel (fun j hj => (c.2.2.2.2.2.2.2.2 j hj).2.2.2.2.1)).trans hs) hg (q := 1) (by decide) hk1 t.2.2.2.2.1 t.2.1 (by rw [fidx_congr (fun j hj => by rw [t.2.2.2.2.2 j hj]), hu]; exact h3), thr_at, fun w => absurd w (by decide), Inv_SM h (SM_thr (SM_thr (SM_refl V)))⟩
      · have t := IE_cnt h.2.2.2.2 (show 0 < 2 by decide)
        have hk1 : V 45 0 (4 * a + g) = nI 0 := by
          rw [cl.2.1]
          rw [cl.1.resolve_left hk]; rfl
        obtain ⟨u, hu⟩ : ∃ u, fidx (fun j => decide (5 ≤ V 5 0 j)) (tn (V 4 0 1)) = u := ⟨_, rfl⟩
        by_cases h3 : u < tn (V 4 0 1)
        · have hG1 := Inv_go1 (v := nI g) h (X := mrdV (up (tkV V 0 5 u (tn (V 4 0 1))) 0 0 9 (V 0 0 9 + 5)) a g (V 0 0 7)) (fun k i j z => tu_hi z)
          have hG := Inv_thr (x := 0) hG1
          have t1 := IE_cnt hG1.2.2.2.2 (show 0 < 2 by decide)
          have tg := IE_cnt hG.2.2.2.2 (show 0 < 2 by decide)
          have cg := ID_cnt hG1.2.2.2.1 ha
          have gg := Inv_touch hG ha hg (fun z => hb0 z) (show 0 < 2 by decide) tg.2.2 h3
          refine ⟨0, nI g, up (mrdV (up (tkV V 0 5 u (tn (V 4 0 1))) 0 0 9 (V 0 0 9 + 5)) a g (V 0 0 7)) 60 0 0 (nI g), _, 4, 3, 0, 0, T, ⟨by decide, by decide, by decide, by decide, by omega⟩, fun z => wr_touchUp _ _ rfl rfl (c_touchUp0 p0 hX ha hx hs hg hk hu h3), fun z => c_M_touchUp p0 ⟨hn6, hG1.1.2.2.1⟩ ha hx cg.2.2.2.2.1 cg.2.1 ((sp_rel (fun j hj => (cg.2.2.2.2.2.2.2.2 j hj).2.2.2.2.1)).trans hs) hg (q := 0) (by decide) ((out_o (by omega)).trans ((tu_hi (by omega)).trans hk1)) t1.2.2.2.2.1 t1.2.1 ((fidx_congr (fun j hj => by rw [t1.2.2.2.2.2 j hj])).trans hu) h3, ?_, fun _ => ?_, Inv_stop gg (fun k i j z => (mrdY_lo (by omega)).trans (tkY_lo (by omega)))⟩
          · exact (mrdY_lo (by omega)).trans ((tkY_lo (by omega)).trans thr_at)
          · exact (mrdY_lo (by omega)).trans ((tkY_lo (by omega)).trans thr_60)
        · exact ⟨3, 0, V, thr (thr V 0) 3, 4, 3, 1, 6, T, ⟨by decide, by decide, by decide, by decide, by omega⟩, fun z => wx_touchUp_3 _ rfl (c_touchUp0x3 p0 hX ha hx hs hg hk (by rw [hu]; exact h3)), fun z => c_M_touchUpx3 p0 hI ha hx c.2.2.2.2.1 c.2.1 ((sp_rel (fun j hj => (c.2.2.2.2.2.2.2.2 j hj).2.2.2.2.1)).trans hs) hg (q := 0) (by decide) hk1 t.2.2.2.2.1 t.2.1 (by rw [fidx_congr (fun j hj => by rw [t.2.2.2.2.2 j hj]), hu]; exact h3), thr_at, fun w => absurd w (by decide), Inv_SM h (SM_thr (SM_thr (SM_refl V)))⟩
    · exact ⟨2, 0, V, thr (thr V 0) 2, 4, 3, 1, 6, T, ⟨by decide, by decide, by decide, by decide, by omega⟩, fun z => wx_touchUp_2 _ rfl (c_touchUpx2 p0 hX ha hx (by rw [hs]; exact hg)), fun z => c_M_touchUpx2 p0 hI ha hx c.2.2.2.2.1 c.2.1 (by rw [sp_rel (fun j hj => (c.2.2.2.2.2.2.2.2 j hj).2.2.2.2.1), hs]; exact hg), thr_at, fun w => absurd w (by decide), Inv_SM h (SM_thr (SM_thr (SM_refl V)))⟩
  · exact ⟨1, 0, V, thr V 1, 4, 3, 1, 6, T, ⟨by decide, by decide, by decide, by decide, by omega⟩, fun z => wx_touchUp_1 _ rfl (c_touchUpx1 p0 hX h0), fun z => c_M_touchUpx1 p0 hI h0, thr_at, fun w => absurd w (by decide), Inv_SM h (SM_thr (SM_refl V))⟩
theorem pnD_hi {V : jV} {a j q g t k i b : Nat} (h : 20 ≤ k) : pnD V a j q g t k i b = V k i b := by
  have e : ∀ c r, drpV (mrdV (up (up (tkV V q (5 + V 10 a 4) g t) 0 0 9 (V 0 0 9 + 5)) 0 0 10 (V 0 0 10 + V 10 a 4)) a j (V 0 0 7)) a c r k i b = V k i b := fun c r => by
    rw [drp_other (by omega) (by omega)]
    unfold mrdV up
    rw [if_neg (by omega), if_neg (by omega), if_neg (by omega), if_neg (by omega)]
    exact tk_other (Or.inr (by omega))
  unfold pnD
  split
  · rw [upk_o (by omega)]; exact e _ _
  · exact e _ _
theorem pn2_hi {V : jV} {k i b : Nat} (h : 20 ≤ k) : (pn2 V).1 k i b = V k i b := by
  unfold pn2
  split
  · rfl
  · dsimp only
    split
    · rfl
    · split
      · exact pnD_hi h
      · rfl
theorem bfo_hi {n : Nat} {V : jV} {k i b : Nat} (h : 20 ≤ k) : bfo n V k i b = V k i b := by
  unfold bfo
  split
  · rw [upk_o (by omega), upk_o (by omega)]
    unfold begV
    rw [upk_o (by omega), upk_o (by omega)]
    unfold stv
    rw [if_neg (by omega)]
    exact fil_other (Or.inr (by omega))
  · rfl
theorem pnl_hi {n : Nat} {V : jV} {k i b : Nat} (h : 20 ≤ k) : (pnl n V).1 k i b = V k i b := by
  unfold pnl
  rw [pn2_hi h]
  split
  · exact bfo_hi h
  · rfl
theorem pnt_hi {n k i b : Nat} (h : 20 ≤ k) : ∀ (N : Nat) (V : jV) (j : Nat), (pntV n N V j).1 k i b = V k i b
  | 0, _, _ => rfl
  | N + 1, V, j => by
    rw [pntV]
    split
    · rw [pnt_hi h N, pnl_hi h]
    · exact pnl_hi h
theorem blY_k {W : jV} {a k i b : Nat} (h : ¬ k = 48) : ∀ c, blY W a c k i b = W k i b
  | 0 => rfl
  | c + 1 => by
    rw [blY]; split
    · exact upk_o (fun q => h q.1)
    · exact blY_k h c
theorem drpY_lo {W : jV} {a c k i b : Nat} (h : k < 20 ∨ k = 60 ∨ (k = 20 ∧ b = 0)) : drpY W a c k i b = W k i b := by
  unfold drpY
  split
  · rw [upk_o (by omega), upk_o (by omega)]
  · rw [blY_k (by omega), upk_o (by omega), upk_o (by omega), upk_o (by omega)]
theorem pl2_lo {W : jV} {k i b : Nat} (h : k < 20 ∨ k = 60 ∨ (k = 20 ∧ b = 0)) : (pl2 W).1 k i b = W k i b := by
  unfold pl2
  split
  · unfold plD
    dsimp only
    rw [upk_o (by omega), upk_o (by omega), drpY_lo h, mrdY_lo h, tkY_lo h]
  · rfl
theorem plB_lo {n : Nat} {W : jV} {k i b : Nat} (h : k < 20 ∨ k = 60 ∨ (k = 20 ∧ b = 0)) : plB n W k i b = W k i b := by
  unfold plB begY begT
  rw [upk_o (by omega), upk_o (by omega), bg_o (by omega)]
  unfold bgT
  rw [upk_o (by omega), upk_o (by omega), upk_o (by omega), upk_o (by omega)]
  exact tab_o (by omega) (by omega) (by omega)
theorem plY_lo {n : Nat} {W : jV} {k i b : Nat} (h : k < 20 ∨ k = 60 ∨ (k = 20 ∧ b = 0)) : (plY n W).1 k i b = W k i b := by
  unfold plY
  split
  · split
    · rw [pl2_lo h, plB_lo h]
    · rfl
  · exact pl2_lo h
theorem pyI_lo {n k i b : Nat} (h : k < 20 ∨ k = 60 ∨ (k = 20 ∧ b = 0)) : ∀ (N : Nat) (W : jV) (j : Nat), (pyI n N W j).1 k i b = W k i b
  | 0, _, _ => rfl
  | N + 1, W, j => by
    rw [pyI]
    split
    · rw [pyI_lo h N, plY_lo h]
    · exact plY_lo h
theorem case_paint (h : Inv T n V V) (p0 : Int32) : Case l D ca q0 sa ad yL_paint cL_paint 4 hL_paint yX6_paint cX6_paint 3 (some .int) [.int p0] T n V := by
  have hX := Inv_XI h
  have hI : n ≤ 6 ∧ V 20 0 1 = nI n := ⟨h.1.1, h.1.2.2.1⟩
  have hn6 := h.1.1
  by_cases h0 : 1 ≤ p0 ∧ p0 ≤ 50
  · obtain ⟨N, hN, e⟩ := rng_nI (N := 50) rfl (by decide) ⟨Int32.le_trans (by decide) h0.1, h0.2⟩
    subst e
    have h1N : 1 ≤ N := nle1 (a := 1) h0.1 rfl rfl (by decide) (by omega)
    have hG := Inv_go (v := nI (pntV n N V 0).2) (x := 0) h (X := (pntV n N V 0).1) (fun k i j z => pnt_hi z _ _ _)
    obtain ⟨g1, g2⟩ := pnt_rel N V _ 0 hG
    exact ⟨0, _, up (pntV n N V 0).1 60 0 0 (nI (pntV n N V 0).2), _, 7, 5, 0, 0, T, ⟨by decide, by decide, by decide, by decide, by omega⟩, fun z => wr_paint _ _ rfl rfl (c_paint hX h1N hN), fun z => c_Mpaint _ (fun U => ∃ V, Inv T n V U) h0 rfl hN ZP_Inv ⟨V, hG⟩, (pyI_lo (by omega) _ _ _).trans thr_at, fun _ => ((pyI_lo (by omega) _ _ _).trans thr_60).trans (by rw [g1]), Inv_stop g2 (fun k i j z => pyI_lo (by omega) _ _ _)⟩
  · exact ⟨1, 0, V, thr V 1, 7, 5, 1, 6, T, ⟨by decide, by decide, by decide, by decide, by omega⟩, fun z => wx_paint_1 _ rfl (c_paintx p0 h0), fun z => c_Mpaintx p0 h0, thr_at, fun w => absurd w (by decide), Inv_SM h (SM_thr (SM_refl V))⟩
end C
