/-- a line painted on the day v, day by day from the day t -/
def fdX (t : Nat) (v : Int32) : Nat → Int32 → Int32
  | 0, s => s
  | u + 1, s => if fdX t v u s = 1 ∧ v + 7 = nI (t + (u + 1)) then 3 else fdX t v u s
theorem fdX_I {t v : Nat} {s : Int32} : ∀ u, fdX t (nI v) u s = fdI t v u s
  | 0 => rfl
  | u + 1 => by rw [fdX, fdI, fdX_I u]
theorem fdX_other {t : Nat} {v s : Int32} (h : ¬ s = 1) : ∀ u, fdX t v u s = s
  | 0 => rfl
  | u + 1 => by rw [fdX, fdX_other h u, if_neg (fun q => h q.1)]
theorem pds_day {n T : Nat} {W : jV} (h : ∀ i, i < n → GY W i) (h4 : ∀ i, i < n → tn (W 43 0 i) ≤ 4) (hT : W 20 0 2 = nI T) : ∀ u,
    (∀ i, i < n → GY (pdsY n W u) i ∧ rlY (pdsY n W u) i = agI u (rlY W i) ∧ ∀ j, j < 4 → pdsY n W u 48 0 (4 * i + j) = if j < tn (W 43 0 i) then fdX T (W 49 0 (4 * i + j)) u (W 48 0 (4 * i + j)) else W 48 0 (4 * i + j)) ∧
    (∀ i, n ≤ i → SP i W (pdsY n W u)) ∧ pdsY n W u 20 0 2 = nI (T + u) ∧ ∀ k b, ¬ (30 ≤ k ∧ k ≤ 33) → ¬ k = 48 → ¬ (k = 20 ∧ b = 2) → pdsY n W u k 0 b = W k 0 b
  | 0 => ⟨fun i hi => ⟨h i hi, rfl, fun j _ => by
      show W 48 0 (4 * i + j) = _
      rw [fdX]; split <;> rfl⟩, fun _ _ => ⟨fun _ _ _ _ _ => rfl, rfl, fun _ _ => rfl⟩, hT, fun _ _ _ _ _ => rfl⟩
  | u + 1 => by
    obtain ⟨i1, i2, i3, i4⟩ := pds_day h h4 hT u
    rw [pdsY, pdY, i3]
    generalize pdsY n W u = U at *
    have hU : ∀ k b, ¬ (k = 20 ∧ b = 2) → up U 20 0 2 (nI (T + u) + 1) k 0 b = U k 0 b := fun k b z => by unfold up; rw [if_neg (by omega)]
    have h2 : up U 20 0 2 (nI (T + u) + 1) 20 0 2 = nI (T + (u + 1)) := by
      have : up U 20 0 2 (nI (T + u) + 1) 20 0 2 = nI (T + u) + 1 := by simp [up]
      rw [this]; exact jx_add (b := 1) rfl rfl
    generalize up U 20 0 2 (nI (T + u) + 1) = X at *
    have s0 : ∀ i, SP i U X := fun i => ⟨fun k j h1 h2 _ => hU k _ (by omega), hU 30 i (by omega), fun j _ => hU 48 _ (by omega)⟩
    have e43 : ∀ i, X 43 0 i = W 43 0 i := fun i => (hU 43 i (by omega)).trans (i4 43 i (by omega) (by omega) (by omega))
    obtain ⟨d1, d2, d3⟩ := pdA_day (n := n) (U := X) (fun i hi => GY_SP (s0 i) (i1 i hi).1) (fun i hi => by rw [e43]; exact h4 i hi) n (Nat.le_refl n)
    refine ⟨fun i hi => ?_, fun i hi => ?_, (d3 20 2 (by omega) (by omega)).trans h2, fun k b z1 z2 z3 => ?_⟩
    · obtain ⟨q1, q2, q3⟩ := d1 i hi
      obtain ⟨r1, r2, r3⟩ := i1 i hi
      refine ⟨q1, ?_, fun j hj => ?_⟩
      · rw [q2, rlY_SP (s0 i) r1.2, r2, agI]
      · rw [q3 j hj, e43, h2, hU 49 _ (by omega), i4 49 _ (by omega) (by omega) (by omega), hU 48 _ (by omega), r3 j hj]
        by_cases z : j < tn (W 43 0 i)
        · rw [if_pos z, if_pos z, fdX]
          by_cases w : fdX T (W 49 0 (4 * i + j)) u (W 48 0 (4 * i + j)) = 1 ∧ W 49 0 (4 * i + j) + 7 = nI (T + (u + 1))
          · rw [if_pos w, if_pos ⟨z, w⟩]
          · rw [if_neg w, if_neg (fun q => w q.2)]
        · rw [if_neg z, if_neg z, if_neg (fun q => z q.1)]
    · have a := d2 i hi
      have b := i2 i hi
      have s := s0 i
      exact ⟨fun k j h1 h2 h3 => ((a.1 k j h1 h2 h3).trans (s.1 k j h1 h2 h3)).trans (b.1 k j h1 h2 h3), (a.2.1.trans s.2.1).trans b.2.1, fun j hj => ((a.2.2 j hj).trans (s.2.2 j hj)).trans (b.2.2 j hj)⟩
    · rw [d3 k b z1 z2, hU k b z3, i4 k b z1 z2 z3]
