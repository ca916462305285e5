section C
variable {l : Launch} {D : va_G} {ca : Nat → ClassId} {q0 : Nat} {sa : Nat → Nat} {ad : jAd} {T n : Nat} {V : jV}
theorem pdP_k {U : jV} {i k a b : Nat} (h : ¬ (30 ≤ k ∧ k ≤ 33)) (h2 : ¬ k = 48) : pdP U i k a b = U k a b := pdP_o (by omega) (by omega) (by omega) (by omega) h2
theorem pdA_k {U : jV} {k a b : Nat} (h : ¬ (30 ≤ k ∧ k ≤ 33)) (h2 : ¬ k = 48) : ∀ j, pdA U j k a b = U k a b
  | 0 => rfl
  | j + 1 => by rw [pdA, pdP_k h h2, pdA_k h h2 j]
theorem pds_k {n k a b : Nat} {W : jV} (h : ¬ (30 ≤ k ∧ k ≤ 33)) (h2 : ¬ k = 48) (h3 : ¬ (k = 20 ∧ b = 2)) : ∀ u, pdsY n W u k a b = W k a b
  | 0 => rfl
  | u + 1 => by rw [pdsY, pdY, pdA_k h h2, upk_o h3, pds_k h h2 h3 u]
theorem pdV_k {d : Int32} {k a b : Nat} (h : ¬ (11 ≤ k ∧ k ≤ 14)) (h2 : ¬ k = 16) : ∀ (j : Nat) (U : jV), pdV d j U k a b = U k a b
  | 0, _ => rfl
  | j + 1, U => by
    rw [pdV]
    unfold pdS
    rw [fad_other h2, grw_other (Or.inr (by omega)), pdV_k h h2 j U]
theorem case_passDays (h : Inv T n V V) (hT : T ≤ 99999) (p0 : Int32) : Case l D ca q0 sa ad yL_passDays cL_passDays 4 hL_passDays yX6_passDays cX6_passDays 3 (some .int) [.int p0] T n V := by
  have hX := Inv_XI h
  have hI : n ≤ 6 ∧ V 20 0 1 = nI n := ⟨h.1.1, h.1.2.2.1⟩
  have hn6 := h.1.1
  by_cases h0 : 1 ≤ p0 ∧ p0 ≤ 60
  · obtain ⟨u, hu, e⟩ := rng_nI (N := 60) rfl (by decide) ⟨Int32.le_trans (by decide) h0.1, h0.2⟩
    subst e
    have hG := Inv_go (v := pdV (nI u) n (up V 0 0 7 (V 0 0 7 + nI u)) 0 0 7) (x := 0) h (X := pdV (nI u) n (up V 0 0 7 (V 0 0 7 + nI u))) (fun k i j z => (pdV_k (by omega) (by omega) n _).trans (upk_o (by omega)))
    have g := Inv_days hG (by omega) hu
    exact ⟨0, _, up (pdV (nI u) n (up V 0 0 7 (V 0 0 7 + nI u))) 60 0 0 (pdV (nI u) n (up V 0 0 7 (V 0 0 7 + nI u)) 0 0 7), _, 4, 2, 0, 0, T + u, ⟨by decide, by decide, by decide, by decide, by omega⟩, fun z => wr_passDays _ _ rfl rfl (c_passDays _ hX h0), fun z => c_MpassDays _ h0 rfl hu (YD_congr (Inv_YD hG) (fun k a b hk => (thr_o (by omega)).symm)), (pds_k (by omega) (by omega) (by omega) u).trans thr_at, fun _ => (((pds_k (by omega) (by omega) (by omega) u).trans thr_60).trans g.2.2.2.1.1).trans g.2.2.2.1.2.1.symm, Inv_stop g (fun k i j z => pds_k (by omega) (by omega) (by omega) u)⟩
  · exact ⟨1, 0, V, thr V 1, 4, 2, 1, 6, T, ⟨by decide, by decide, by decide, by decide, by omega⟩, fun z => wx_passDays_1 _ rfl (c_passDaysx p0 h0), fun z => c_MpassDaysx p0 h0, thr_at, fun w => absurd w (by decide), Inv_SM h (SM_thr (SM_refl V))⟩
end C
