section C
variable {l : Launch} {D : va_G} {ca : Nat → ClassId} {q0 : Nat} {sa : Nat → Nat} {ad : jAd} {T n : Nat} {V : jV}
theorem thr_o {U : jV} {x : Int32} {k i j : Nat} (h : ¬ (k = 20 ∧ j = 0)) : thr U x k i j = U k i j := by unfold thr up; rw [if_neg (fun q => h ⟨q.1, q.2.2⟩)]
theorem out_o {U : jV} {x : Int32} {k i j : Nat} (h : ¬ k = 60) : up U 60 0 0 x k i j = U k i j := by unfold up; rw [if_neg (fun q => h q.1)]
theorem out_at {U : jV} {x : Int32} : up U 60 0 0 x 60 0 0 = x := by simp [up]
/-- the Model begins: the class's memory is X, the Model's that of V -/
theorem Inv_go {T n : Nat} {V X : jV} {v x : Int32} (h : Inv T n V V) (hX : ∀ k i j, 20 ≤ k → X k i j = V k i j) : Inv T n V (thr (up X 60 0 0 v) x) :=
  Inv_W1 h (fun k j z1 z2 z3 => by rw [thr_o (by omega), out_o (by omega), hX k 0 j z1])
/-- and ends -/
theorem Inv_stop {T n : Nat} {X Y : jV} {v x : Int32} (h : Inv T n X Y) (hY : ∀ k i j, k < 20 → Y k i j = thr (up X 60 0 0 v) x k i j) : Inv T n Y Y :=
  Inv_one h (fun k i j z1 z2 => by rw [hY k i j z1, thr_o (by omega), out_o (by omega)])
theorem up30_o {U : jV} {x : Int32} {a k i j : Nat} (h : ¬ k = 30) : up U 30 0 a x k i j = U k i j := by unfold up; rw [if_neg (fun q => h q.1)]
theorem rpW_o {W : jV} {a f q k i j : Nat} {mt : Int32} (h : ¬ (31 ≤ k ∧ k ≤ 33)) : rpW W a f mt q k i j = W k i j := by
  unfold rpW up; rw [if_neg (by omega), if_neg (by omega), if_neg (by omega)]
theorem remY_o {W : jV} {i g k a b : Nat} (h : ¬ (30 ≤ k ∧ k ≤ 33)) : remY W i g k a b = W k a b := rem_o (by omega) (by omega) (by omega) (by omega)
theorem obY_o {a k i b : Nat} {mm : Int32} (h : ¬ (29 ≤ k ∧ k ≤ 33)) : ∀ (j : Nat) (W : jV) (x : Int32), (obY a mm j W x).1 k i b = W k i b
  | 0, _, _ => rfl
  | j + 1, W, x => by
    have e : obY1 W a j mm k i b = W k i b := by unfold obY1 up; rw [if_neg (by omega)]
    rw [obY]
    split
    · rw [obY_o h j, remY_o (by omega), e]
    · rw [obY_o h j, e]
theorem case_report (h : Inv T n V V) (p0 p1 p2 : Int32) : Case l D ca q0 sa ad yL_report cL_report 6 hL_report yX6_report cX6_report 5 (some .int) [.int p0, .int p1, .int p2] T n V := by
  have hX := Inv_XI h
  have hI : n ≤ 6 ∧ V 20 0 1 = nI n := ⟨h.1.1, h.1.2.2.1⟩
  have hn6 := h.1.1
  by_cases h6 : okP 6 p0
  · by_cases h0 : okP n p1
    · obtain ⟨a, ha, hx⟩ := h0
      by_cases hm : -60 ≤ p2 ∧ p2 ≤ 60
      · obtain ⟨f, hf, e0⟩ := h6
        subst e0
        obtain ⟨q, hq⟩ : ∃ q, fidx (fun j => decide (V 12 a j = nI f)) (tn (V 11 a 3)) = q := ⟨_, rfl⟩
        have hX0 : ∀ k i j, 20 ≤ k → putV V a (tn (V 11 a 3)) f p2 q k i j = V k i j := fun k i j z => FarV_put k i j (Or.inr (by omega)) (by omega)
        have hc6 := (IB_cnt h.2.1 ha).2.1.2.2.1
        have hp := place_rel (x := nI f) h.2.1 ha
        by_cases hqc : q < tn (V 11 a 3)
        · have hG := Inv_go (v := corr (xmin (putV V a (tn (V 11 a 3)) f p2 q) a) (xtru (putV V a (tn (V 11 a 3)) f p2 q) a) (if q < tn (V 11 a 3) then tn (V 11 a 3) else tn (V 11 a 3) + 1)) (x := 0) h hX0
          obtain ⟨g1, g2⟩ := Inv_put hG ha hf hm hq hqc
          have pl := (place_rel (x := nI f) hG.2.1 ha).trans (fres_lt hq hqc)
          refine ⟨0, _, up (putV V a (tn (V 11 a 3)) f p2 q) 60 0 0 (corr (xmin (putV V a (tn (V 11 a 3)) f p2 q) a) (xtru (putV V a (tn (V 11 a 3)) f p2 q) a) (if q < tn (V 11 a 3) then tn (V 11 a 3) else tn (V 11 a 3) + 1)), _, 4, 3, 0, 0, T, ⟨by decide, by decide, by decide, by decide, by omega⟩, fun z => wr_report _ _ _ _ rfl rfl (c_report _ p1 p2 hX ha hx hf rfl hm hq (by omega)), fun z => c_M_report p1 p2 ⟨hn6, hG.1.2.2.1⟩ hf ha hx hm (QR_YR (IB_cnt hG.2.1 ha).2.1) pl (by omega), (rpW_o (by omega)).trans thr_at, fun _ => ?_, Inv_stop g2 (fun k i j z => rpW_o (by omega))⟩
          refine ((rpW_o (by omega)).trans thr_60).trans ?_
          rw [if_pos hqc]
          exact (QR_corr g1).symm
        · have hG := Inv_go (v := corr (xmin (putV V a (tn (V 11 a 3)) f p2 q) a) (xtru (putV V a (tn (V 11 a 3)) f p2 q) a) (if q < tn (V 11 a 3) then tn (V 11 a 3) else tn (V 11 a 3) + 1)) (x := 0) h hX0
          obtain ⟨g0, g6, g1, g2⟩ := Inv_new hG ha hf hm hq hqc
          have pl := (place_rel (x := nI f) hG.2.1 ha).trans (fres_no (by rw [hq]; exact hqc))
          have g30 : ∀ U : jV, thr U 0 30 0 a = U 30 0 a := fun U => thr_o (by omega)
          rw [g30] at g1 g2
          refine ⟨0, _, up (putV V a (tn (V 11 a 3)) f p2 q) 60 0 0 (corr (xmin (putV V a (tn (V 11 a 3)) f p2 q) a) (xtru (putV V a (tn (V 11 a 3)) f p2 q) a) (if q < tn (V 11 a 3) then tn (V 11 a 3) else tn (V 11 a 3) + 1)), _, 4, 3, 0, 0, T, ⟨by decide, by decide, by decide, by decide, by omega⟩, fun z => wr_report _ _ _ _ rfl rfl (c_report _ p1 p2 hX ha hx hf rfl hm hq g6), fun z => c_M_reportn p1 p2 ⟨hn6, hG.1.2.2.1⟩ hf ha hx hm (QR_YR (IB_cnt hG.2.1 ha).2.1) pl (by omega), ?_, fun _ => ?_, ?_⟩
          · exact (rpW_o (by omega)).trans ((up30_o (by omega)).trans thr_at)
          · refine ((rpW_o (by omega)).trans ((up30_o (by omega)).trans thr_60)).trans ?_
            rw [if_neg hqc]
            subst g0
            exact (QR_corr g1).symm
          · subst g0
            exact Inv_stop g2 (fun k i j z => (rpW_o (by omega)).trans (by unfold up; rw [if_neg (by omega)]))
      · exact ⟨2, 0, V, thr (thr V 0) 2, 4, 3, 1, 6, T, ⟨by decide, by decide, by decide, by decide, by omega⟩, fun z => wx_report_2 _ _ _ rfl (c_reportx3 p0 p1 p2 hX ha hx h6 hm), fun z => c_M_reportx3 p0 p1 p2 hI h6 ha hx hm, thr_at, fun w => absurd w (by decide), Inv_SM h (SM_thr (SM_thr (SM_refl V)))⟩
    · exact ⟨1, 0, V, thr V 1, 4, 3, 1, 6, T, ⟨by decide, by decide, by decide, by decide, by omega⟩, fun z => wx_report_1 _ _ _ rfl (c_reportx2 p0 p1 p2 hX h6 h0), fun z => c_M_reportx2 p0 p1 p2 hI h6 h0, thr_at, fun w => absurd w (by decide), Inv_SM h (SM_thr (SM_refl V))⟩
  · exact ⟨1, 0, V, thr V 1, 4, 3, 1, 6, T, ⟨by decide, by decide, by decide, by decide, by omega⟩, fun z => wx_report_1 _ _ _ rfl (c_reportx1 p0 p1 p2 hX h6), fun z => c_M_reportx1 p0 p1 p2 hI h6, thr_at, fun w => absurd w (by decide), Inv_SM h (SM_thr (SM_refl V))⟩
theorem case_observe (h : Inv T n V V) (p0 p1 : Int32) : Case l D ca q0 sa ad yL_observe cL_observe 5 hL_observe yX6_observe cX6_observe 7 (some .int) [.int p0, .int p1] T n V := by
  have hX := Inv_XI h
  have hI : n ≤ 6 ∧ V 20 0 1 = nI n := ⟨h.1.1, h.1.2.2.1⟩
  have hn6 := h.1.1
  by_cases h0 : okP n p0
  · obtain ⟨a, ha, hx⟩ := h0
    by_cases hm : -60 ≤ p1 ∧ p1 ≤ 60
    · obtain ⟨e, qr, rb⟩ := IB_cnt h.2.1 ha
      obtain ⟨_, cf, _⟩ := cmp_all (mm := p1) _ _ V V 0 (Nat.le_refl _) qr rb h.2.1.1
      have hG := Inv_go (v := (cmpV a p1 (tn (V 11 a 3)) V 0).2) (x := 0) h (X := (cmpV a p1 (tn (V 11 a 3)) V 0).1) (fun k i j z => cf k i j (Or.inr (by omega)) (by omega))
      obtain ⟨g1, g2⟩ := Inv_obs (mm := p1) hG ha
      exact ⟨0, _, up (cmpV a p1 (tn (V 11 a 3)) V 0).1 60 0 0 (cmpV a p1 (tn (V 11 a 3)) V 0).2, _, 3, 2, 0, 0, T, ⟨by decide, by decide, by decide, by decide, by omega⟩, fun z => wr_observe _ _ _ rfl rfl (c_observe p0 p1 hX ha hx hm), fun z => c_M_observe p0 p1 ⟨hn6, hG.1.2.2.1⟩ ha hx (QR_YR (IB_cnt hG.2.1 ha).2.1) hm, (obY_o (by omega) _ _ _).trans thr_at, fun _ => ((obY_o (by omega) _ _ _).trans thr_60).trans g1.symm, Inv_stop g2 (fun k i j z => obY_o (by omega) _ _ _)⟩
    · exact ⟨2, 0, V, thr (thr V 0) 2, 3, 2, 1, 6, T, ⟨by decide, by decide, by decide, by decide, by omega⟩, fun z => wx_observe_2 _ _ rfl (c_observex2 p0 p1 hX ha hx hm), fun z => c_M_observex2 p0 p1 hI ha hx hm, thr_at, fun w => absurd w (by decide), Inv_SM h (SM_thr (SM_thr (SM_refl V)))⟩
  · exact ⟨1, 0, V, thr V 1, 3, 2, 1, 6, T, ⟨by decide, by decide, by decide, by decide, by omega⟩, fun z => wx_observe_1 _ _ rfl (c_observex1 p0 p1 hX h0), fun z => c_M_observex1 p0 p1 hI h0, thr_at, fun w => absurd w (by decide), Inv_SM h (SM_thr (SM_refl V))⟩
end C
