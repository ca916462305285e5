/-- a line of the job painted -/
theorem Inv_line {T n a j q t g : Nat} {V W : jV} (h : Inv T n V W) (ha : a < n) (h8 : V 0 0 8 = nI a) (h20 : W 20 0 20 = nI j) (hj : j < tn (V 6 a 3)) (hz : ∀ k, k < tn (V 6 a 3) → (V 16 a k = 0 ↔ k ≤ j)) (hq : q < 2) (r : TR q t V W) (hg : g < t) :
    Inv T n (pnD V a j q g t) (plD W a j q g) := by
  obtain ⟨hA, hB, hC, hD, hE⟩ := h
  obtain ⟨s1, s2, s3⟩ := ID_cnt hD ha
  have hn := hA.1
  have e7 : V 0 0 7 = nI T := hD.1
  have e28 : W 28 0 a = V 10 a 4 := (hA.2.2.2 a ha).2.2.2.2.2
  have e43 : tn (W 43 0 a) = tn (V 6 a 3) := by rw [s3.2.2.1, tn_nI (by omega)]
  unfold pnD plD
  dsimp only
  rw [e7, e28, e43]
  have fA : ∀ k i b, ¬ k = 4 → ¬ k = 5 → ¬ (k = 0 ∧ (b = 9 ∨ b = 10)) → up (up (tkV V q (5 + V 10 a 4) g t) 0 0 9 (V 0 0 9 + 5)) 0 0 10 (V 0 0 10 + V 10 a 4) k i b = V k i b := fun k i b z1 z2 z3 => by
    unfold up; rw [if_neg (by omega), if_neg (by omega)]; exact tk_other (Or.inr ⟨z1, z2⟩)
  have fB : ∀ k b, ¬ k = 34 → ¬ k = 35 → ¬ (k = 20 ∧ b = 17) → tkY W q (5 + V 10 a 4) g k 0 b = W k 0 b := fun k b z1 z2 z3 => tk_o z1 z2 z3
  obtain ⟨i1, i2⟩ := IE_take (x := 5 + V 10 a 4) hE hq r hg
  have w9 : up (up (tkV V q (5 + V 10 a 4) g t) 0 0 9 (V 0 0 9 + 5)) 0 0 10 (V 0 0 10 + V 10 a 4) 0 0 9 = V 0 0 9 + 5 := by simp [up]
  have w10 : up (up (tkV V q (5 + V 10 a 4) g t) 0 0 9 (V 0 0 9 + 5)) 0 0 10 (V 0 0 10 + V 10 a 4) 0 0 10 = V 0 0 10 + V 10 a 4 := by simp [up]
  have tA : ∀ k i b, (k = 4 ∨ k = 5) → up (up (tkV V q (5 + V 10 a 4) g t) 0 0 9 (V 0 0 9 + 5)) 0 0 10 (V 0 0 10 + V 10 a 4) k i b = tkV V q (5 + V 10 a 4) g t k i b := fun k i b z => by unfold up; rw [if_neg (by omega), if_neg (by omega)]
  generalize up (up (tkV V q (5 + V 10 a 4) g t) 0 0 9 (V 0 0 9 + 5)) 0 0 10 (V 0 0 10 + V 10 a 4) = A at *
  generalize tkY W q (5 + V 10 a 4) g = B at *
  have gA : ∀ k i b, ¬ (k = 16 ∧ i = a ∧ b = j) → ¬ (k = 17 ∧ i = a ∧ b = j) → mrdV A a j (nI T) k i b = A k i b := fun k i b z1 z2 => by unfold mrdV up; rw [if_neg z2, if_neg z1]
  have gB : ∀ k b, ¬ (k = 20 ∧ b = 15) → ¬ (k = 48 ∧ b = 4 * a + j) → ¬ (k = 49 ∧ b = 4 * a + j) → mrdY B (4 * a + j) k 0 b = B k 0 b := fun k b z1 z2 z3 => by unfold mrdY up; rw [if_neg (by omega), if_neg (by omega), if_neg (by omega)]
  have w15 : mrdY B (4 * a + j) 20 0 15 = B 20 0 15 + 5 := by simp [mrdY, up]
  have m16 : mrdV A a j (nI T) 16 a j = 1 := by simp [mrdV, up]
  have b2 : BR T a (tn (V 6 a 3)) A B := BR_congr s3 (fun k i z => fA k a i (by omega) (by omega) (by omega)) (fun k i z => fB k i (by omega) (by omega) (by omega))
  have b3 := BR_mrd b2 hj ((fB 20 2 (by decide) (by decide) (by omega)).trans hD.2.1)
  have b28 : mrdY B (4 * a + j) 28 0 a = V 10 a 4 := by rw [gB 28 a (by omega) (by omega) (by omega), fB 28 a (by omega) (by omega) (by omega), e28]
  have b4 := BR_drp b3 b28
  have F : FarB a V (drpV (mrdV A a j (nI T)) a (tn (V 6 a 3)) (V 10 a 4)) W (drpY (mrdY B (4 * a + j)) a (tn (V 6 a 3))) := FarB_trans (FarB_trans (FarB_congr (fun k i b z => fA k i b (by omega) (by omega) (by omega)) (fun k b z => fB k b (by omega) (by omega) (by omega))) (FarB_mrd (by omega))) (FarB_drp s2)
  have hA4 : ∀ k i b, ¬ k = 4 → ¬ k = 5 → ¬ (k = 0 ∧ (b = 9 ∨ b = 10)) → ¬ (15 ≤ k ∧ k ≤ 17) → drpV (mrdV A a j (nI T)) a (tn (V 6 a 3)) (V 10 a 4) k i b = V k i b := fun k i b z1 z2 z3 z4 => by
    rw [drp_other (by omega) (by omega), gA k i b (by omega) (by omega), fA k i b z1 z2 z3]
  have hA5 : ∀ k i b, ¬ (15 ≤ k ∧ k ≤ 17) → drpV (mrdV A a j (nI T)) a (tn (V 6 a 3)) (V 10 a 4) k i b = A k i b := fun k i b z => by
    rw [drp_other (by omega) (by omega), gA k i b (by omega) (by omega)]
  have hB4 : ∀ k b, ¬ k = 34 → ¬ k = 35 → ¬ (k = 20 ∧ (b = 15 ∨ b = 16 ∨ b = 17)) → ¬ (44 ≤ k ∧ k ≤ 49) → drpY (mrdY B (4 * a + j)) a (tn (V 6 a 3)) k 0 b = W k 0 b := fun k b z1 z2 z3 z4 => by
    rw [drpY_o s2 (by omega) (by omega) (by omega), gB k b (by omega) (by omega) (by omega), fB k b z1 z2 (by omega)]
  have hB5 : ∀ k b, ¬ (k = 20 ∧ (b = 15 ∨ b = 16)) → ¬ (44 ≤ k ∧ k ≤ 49) → drpY (mrdY B (4 * a + j)) a (tn (V 6 a 3)) k 0 b = B k 0 b := fun k b z3 z4 => by
    rw [drpY_o s2 (by omega) (by omega) (by omega), gB k b (by omega) (by omega) (by omega)]
  have d15 : drpY (mrdY B (4 * a + j)) a (tn (V 6 a 3)) 20 0 15 = W 20 0 15 + 5 := by
    rw [drpY_o s2 (by omega) (by omega) (by omega), w15, fB 20 15 (by omega) (by omega) (by omega)]
  have d16 : drpY (mrdY B (4 * a + j)) a (tn (V 6 a 3)) 20 0 16 = W 20 0 16 + V 10 a 4 := by
    rw [drpY_16 s2, b28, gB 20 16 (by omega) (by omega) (by omega), fB 20 16 (by omega) (by omega) (by omega)]
  have z0 : ∀ k, drpV (mrdV A a j (nI T)) a (tn (V 6 a 3)) (V 10 a 4) 16 a k = 0 ↔ mrdV A a j (nI T) 16 a k = 0 := fun k => drpV_0
  generalize drpV (mrdV A a j (nI T)) a (tn (V 6 a 3)) (V 10 a 4) = X at *
  generalize drpY (mrdY B (4 * a + j)) a (tn (V 6 a 3)) = Y at *
  have y20 : Y 20 0 20 = nI j := (hB4 20 20 (by omega) (by omega) (by omega) (by omega)).trans h20
  have x8 : X 0 0 8 = nI a := (hA4 0 0 8 (by omega) (by omega) (by omega) (by omega)).trans h8
  rw [y20]
  have hX : ∀ k i b, ¬ (k = 0 ∧ b = 8) → (if j = 0 then up X 0 0 8 (-1) else X) k i b = X k i b := fun k i b z => by
    split
    · unfold up; rw [if_neg (by omega)]
    · rfl
  have hX8 : (if j = 0 then up X 0 0 8 (-1) else X) 0 0 8 = if j = 0 then -1 else nI a := by
    split
    · simp [up]
    · exact x8
  have hY : ∀ k b, ¬ (k = 20 ∧ (b = 19 ∨ b = 20)) → up (up Y 20 0 19 (if nI j = 0 then -1 else nI a)) 20 0 20 (nI j - 1) k 0 b = Y k 0 b := fun k b z => by
    unfold up; rw [if_neg (by omega), if_neg (by omega)]
  have hY19 : up (up Y 20 0 19 (if nI j = 0 then -1 else nI a)) 20 0 20 (nI j - 1) 20 0 19 = if j = 0 then -1 else nI a := by
    have w : up (up Y 20 0 19 (if nI j = 0 then -1 else nI a)) 20 0 20 (nI j - 1) 20 0 19 = if nI j = 0 then -1 else nI a := by simp [up]
    rw [w]
    by_cases z : j = 0
    · rw [if_pos z, if_pos (by rw [z]; rfl)]
    · rw [if_neg z, if_neg (fun w2 => z ((neq (b := 0) (y := (0 : Int32)) (by omega) (by decide) rfl rfl).mp w2))]
  have hY20 : up (up Y 20 0 19 (if nI j = 0 then -1 else nI a)) 20 0 20 (nI j - 1) 20 0 20 = nI j - 1 := by simp [up]
  generalize hXX : (if j = 0 then up X 0 0 8 (-1) else X) = X2 at *
  generalize up (up Y 20 0 19 (if nI j = 0 then -1 else nI a)) 20 0 20 (nI j - 1) = Y2 at *
  have b5 : BR T a (tn (V 6 a 3)) X2 Y2 := BR_congr b4 (fun k i z => hX k a i (by omega)) (fun k i z => hY k i (by omega))
  have F2 : FarB a V X2 W Y2 := FarB_trans F (FarB_congr (fun k i b z => hX k i b (by omega)) (fun k b z => hY k b (by omega)))
  have hJ : JB n X2 Y2 := by
    by_cases z : j = 0
    · exact Or.inl (by rw [hX8, if_pos z])
    · refine Or.inr ⟨a, j - 1, tn (V 6 a 3), ha, by omega, s2, by rw [hX8, if_neg z], ?_, b5.2.1, fun k hk => ?_⟩
      · rw [hY20]; exact jx_sub (b := 1) rfl rfl (by omega)
      · rw [hX 16 a k (by omega)]
        refine (z0 k).trans ?_
        by_cases e : k = j
        · subst e
          rw [m16]
          exact ⟨fun z => absurd z (by decide), fun z => absurd z (by omega)⟩
        · rw [gA 16 a k (by omega) (by omega), fA 16 a k (by omega) (by omega) (by omega)]
          refine (hz k hk).trans ⟨fun w => by omega, fun w => by omega⟩
  refine ⟨IA_congr hA (fun k i b z => ?_) (fun k b z => ?_), IB_congr hB (fun k i b z => ?_) (fun k b z => ?_), IC_congr hC (fun i b => ?_) (fun b => ?_), ID_board hD hn ha b5 F2 ?_ ?_ (by rw [hY19, hX8]) hJ, fun q' hq' => ?_, ?_, ?_, ?_⟩
  · rw [hX k i b (by omega), hA4 k i b (by omega) (by omega) (by omega) (by omega)]
  · rw [hY k b (by omega), hB4 k b (by omega) (by omega) (by omega) (by omega)]
  · rw [hX k i b (by omega), hA4 k i b (by omega) (by omega) (by omega) (by omega)]
  · rw [hY k b (by omega), hB4 k b (by omega) (by omega) (by omega) (by omega)]
  · rw [hX 3 i b (by omega), hA4 3 i b (by omega) (by omega) (by omega) (by omega)]
  · rw [hY 39 b (by omega), hB4 39 b (by omega) (by omega) (by omega) (by omega)]
  · rw [hX 0 0 7 (by omega), hA4 0 0 7 (by omega) (by omega) (by omega) (by omega)]
  · rw [hY 20 2 (by omega), hB4 20 2 (by omega) (by omega) (by omega) (by omega)]
  · obtain ⟨t', w⟩ := i1 q' hq'
    refine ⟨t', TR_congr w (fun k b z => ?_) (fun k b z => ?_)⟩
    · rw [hX k q' b (by omega), hA5 k q' b (by omega), tA k q' b z]
    · rw [hY k b (by omega), hB5 k b (by omega) (by omega)]
  · rw [hY 20 15 (by omega), d15, hX 0 0 9 (by omega), hA5 0 0 9 (by omega), w9, hE.2.1]
  · rw [hY 20 16 (by omega), d16, hX 0 0 10 (by omega), hA5 0 0 10 (by omega), w10, hE.2.2.1]
  · rw [hY 20 17 (by omega), hB5 20 17 (by omega) (by omega), hX 4 0 2 (by omega), hX 4 1 2 (by omega), hA5 4 0 2 (by omega), hA5 4 1 2 (by omega), tA 4 0 2 (Or.inl rfl), tA 4 1 2 (Or.inl rfl)]; exact i2
