def rlY (U : jV) (i : Nat) : List (Int32 × Int32 × Int32) := rowY U i (tn (U 30 0 i))
def GY (U : jV) (i : Nat) : Prop := U 30 0 i = nI (tn (U 30 0 i)) ∧ tn (U 30 0 i) ≤ 6
/-- the pier i of U' is that of U a day later -/
def DP (i : Nat) (U U' : jV) : Prop := GY U' i ∧ rlY U' i = agG (rlY U i) ∧ ∀ j, j < 4 → U' 48 0 (4 * i + j) = if j < tn (U 43 0 i) ∧ U 48 0 (4 * i + j) = 1 ∧ U 49 0 (4 * i + j) + 7 = U 20 0 2 then 3 else U 48 0 (4 * i + j)
/-- it is the same -/
def SP (i : Nat) (U U' : jV) : Prop := (∀ k j, 31 ≤ k → k ≤ 33 → j < 6 → U' k 0 (6 * i + j) = U k 0 (6 * i + j)) ∧ U' 30 0 i = U 30 0 i ∧ ∀ j, j < 4 → U' 48 0 (4 * i + j) = U 48 0 (4 * i + j)
def OT (U U' : jV) : Prop := ∀ k b, ¬ (30 ≤ k ∧ k ≤ 33) → ¬ k = 48 → U' k 0 b = U k 0 b
theorem rlY_SP {i : Nat} {U U' : jV} (h : SP i U U') (h6 : tn (U 30 0 i) ≤ 6) : rlY U' i = rlY U i := by
  unfold rlY
  rw [h.2.1]
  exact rwL_congr _ (fun j hj => ⟨h.1 31 j (by omega) (by omega) (by omega), h.1 32 j (by omega) (by omega) (by omega), h.1 33 j (by omega) (by omega) (by omega)⟩)
theorem GY_SP {i : Nat} {U U' : jV} (h : SP i U U') (h6 : GY U i) : GY U' i := by unfold GY; rw [h.2.1]; exact h6
theorem FarY_ag {i j : Nat} {U : jV} (hj : j < 6) : FarY i U (agS i j U) := by
  refine ⟨fun k i' b h1 h2 h3 h4 => ?_, fun i' h => ?_, fun k b h => ?_⟩ <;> (unfold agS up; rw [if_neg (by omega)])
theorem FarY_pdR {i : Nat} : ∀ (j c : Nat) (U : jV), j ≤ c → c ≤ 6 → U 30 0 i = nI c → FarY i U (pdR i j U)
  | 0, _, U, _, _, _ => FarY_refl i U
  | j + 1, c, U, hj, h6, h => by
    have hc : agS i j U 30 0 i = nI c := h
    have f1 := FarY_ag (i := i) (j := j) (U := U) (by omega)
    rw [pdR]
    split
    · have f2 := FarY_rem (W := agS i j U) (g := j) hc h6
      have hc2 : remY (agS i j U) i j 30 0 i = nI (c - 1) := by
        unfold remY shY up
        rw [if_neg (by omega), if_pos ⟨rfl, rfl, rfl⟩, hc]
        exact jx_sub (b := 1) rfl rfl (by omega)
      exact FarY_trans (FarY_trans f1 f2) (FarY_pdR j (c - 1) _ (by omega) (by omega) hc2)
    · exact FarY_trans f1 (FarY_pdR j c _ (by omega) h6 hc)
theorem pdP_day {i : Nat} {U : jV} (h : GY U i) (h4 : tn (U 43 0 i) ≤ 4) : DP i U (pdP U i) ∧ (∀ i', ¬ i' = i → SP i' U (pdP U i)) ∧ OT U (pdP U i) := by
  obtain ⟨c', r1, r2, r3⟩ := pdR_all h.1 h.2
  have far := FarY_pdR (i := i) _ _ U (Nat.le_refl _) h.2 h.1
  have e43 : pdR i (tn (U 30 0 i)) U 43 0 i = U 43 0 i := far.2.2 43 i (by omega)
  have ho : ∀ k b, ¬ (30 ≤ k ∧ k ≤ 33) → pdR i (tn (U 30 0 i)) U k 0 b = U k 0 b := fun k b z => pdR_o (by omega) (by omega) (by omega) (by omega) _ _
  unfold pdP
  rw [e43]
  generalize pdR i (tn (U 30 0 i)) U = X at *
  have hF : ∀ k b, ¬ (k = 48 ∧ 4 * i ≤ b ∧ b < 4 * i + tn (U 43 0 i)) → pdF X i (tn (U 43 0 i)) k 0 b = X k 0 b := fun k b z => by unfold pdF; rw [if_neg (fun q => z ⟨q.1, q.2.2.1, q.2.2.2.1⟩)]
  refine ⟨⟨?_, ?_, fun j hj => ?_⟩, fun i' hn => ⟨fun k j h1 h2 h3 => ?_, ?_, fun j hj => ?_⟩, fun k b h1 h2 => ?_⟩
  · have e : pdF X i (tn (U 43 0 i)) 30 0 i = nI c' := (hF 30 i (by omega)).trans r2
    unfold GY
    rw [e, tn_nI (by omega)]
    exact ⟨rfl, r1⟩
  · have e : pdF X i (tn (U 43 0 i)) 30 0 i = nI c' := (hF 30 i (by omega)).trans r2
    unfold rlY
    rw [e, tn_nI (by omega), ← r3]
    exact rwL_congr _ (fun j hj => ⟨hF 31 _ (by omega), hF 32 _ (by omega), hF 33 _ (by omega)⟩)
  · unfold pdF
    rw [ho 48 _ (by omega), ho 49 _ (by omega), ho 20 2 (by omega)]
    by_cases z : j < tn (U 43 0 i) ∧ U 48 0 (4 * i + j) = 1 ∧ U 49 0 (4 * i + j) + 7 = U 20 0 2
    · rw [if_pos z, if_pos ⟨rfl, rfl, by omega, by omega, z.2⟩]
    · rw [if_neg z, if_neg (fun q => z ⟨by omega, q.2.2.2.2⟩)]
  · rw [hF k _ (by omega)]; exact far.1 k i' j h1 h2 hn h3
  · rw [hF 30 _ (by omega)]; exact far.2.1 i' hn
  · rw [hF 48 _ (by omega)]; exact ho 48 _ (by omega)
  · rw [hF k b (by omega)]; exact ho k b (by omega)
theorem pdA_day {n : Nat} {U : jV} (h : ∀ i, i < n → GY U i) (h4 : ∀ i, i < n → tn (U 43 0 i) ≤ 4) : ∀ j, j ≤ n → (∀ i, i < j → DP i U (pdA U j)) ∧ (∀ i, j ≤ i → SP i U (pdA U j)) ∧ OT U (pdA U j)
  | 0, _ => ⟨fun _ q => absurd q (by omega), fun _ _ => ⟨fun _ _ _ _ _ => rfl, rfl, fun _ _ => rfl⟩, fun _ _ _ _ => rfl⟩
  | j + 1, hj => by
    obtain ⟨i1, i2, i3⟩ := pdA_day h h4 j (by omega)
    rw [pdA]
    have s := i2 j (Nat.le_refl j)
    have e43 : ∀ i, pdA U j 43 0 i = U 43 0 i := fun i => i3 43 i (by omega) (by omega)
    obtain ⟨p1, p2, p3⟩ := pdP_day (U := pdA U j) (i := j) (GY_SP s (h j (by omega))) (by rw [e43]; exact h4 j (by omega))
    refine ⟨fun i hi => ?_, fun i hi => ?_, fun k b h1 h2 => (p3 k b h1 h2).trans (i3 k b h1 h2)⟩
    · by_cases e : i = j
      · subst e
        obtain ⟨q1, q2, q3⟩ := p1
        refine ⟨q1, by rw [q2, rlY_SP s (h i (by omega)).2], fun b hb => ?_⟩
        rw [q3 b hb, e43, s.2.2 b hb, i3 49 _ (by omega) (by omega), i3 20 2 (by omega) (by omega)]
      · obtain ⟨q1, q2, q3⟩ := i1 i (by omega)
        have s2 := p2 i e
        exact ⟨GY_SP s2 q1, by rw [rlY_SP s2 q1.2, q2], fun b hb => by rw [s2.2.2 b hb]; exact q3 b hb⟩
    · have s1 := i2 i (by omega)
      have s2 := p2 i (by omega)
      exact ⟨fun k b h1 h2 h3 => (s2.1 k b h1 h2 h3).trans (s1.1 k b h1 h2 h3), s2.2.1.trans s1.2.1, fun b hb => (s2.2.2 b hb).trans (s1.2.2 b hb)⟩
