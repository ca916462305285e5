theorem j0' {a : Nat → Int32} (x : Int32) : x + sumT a 0 = x := by
  show x + 0 = x
  exact Int32.add_zero x
theorem do_row {U : jV} {q u j : Nat} (h : U 34 0 q = nI u) (hu : u ≤ 12) (hj : j + 1 < u) : doY U q 35 0 (12 * q + j) = U 35 0 (12 * q + (j + 1)) := by
  unfold doY
  rw [h, tn_nI (by omega)]
  unfold dsY
  rw [if_pos ⟨rfl, rfl, by omega, by omega⟩]
  rfl
theorem do_cnt {U : jV} {q u : Nat} (h : U 34 0 q = nI u) (hu : 1 ≤ u) : doY U q 34 0 q = nI (u - 1) := by unfold doY; exact dsc h hu
theorem do_o {U : jV} {q k i j : Nat} (h1 : ¬ k = 34) (h2 : ¬ k = 35) : doY U q k i j = U k i j := by unfold doY; exact ds_o h1 h2
theorem do_q {U : jV} {q q' u j : Nat} (h : U 34 0 q = nI u) (hu : u ≤ 12) (hn : ¬ q' = q) (hj : j < 12) : doY U q 35 0 (12 * q' + j) = U 35 0 (12 * q' + j) ∧ doY U q 34 0 q' = U 34 0 q' := by
  unfold doY
  rw [h, tn_nI (by omega)]
  unfold dsY up
  rw [if_neg (by omega), if_neg (by omega), if_neg (by omega), if_neg (by omega)]
  exact ⟨rfl, rfl⟩
/-- what is left in the tins once the g oldest are poured out -/
theorem dp_rows {V : jV} {q t : Nat} (ht : V 34 0 q = nI t) (h12 : t ≤ 12) : ∀ g, g ≤ t → (∀ j, j + g < t → dpY V q g 35 0 (12 * q + j) = V 35 0 (12 * q + (j + g))) ∧ dpY V q g 20 0 17 = V 20 0 17 + sumT (ytin V q) g
  | 0, _ => ⟨fun _ _ => rfl, (j0' _).symm⟩
  | g + 1, hg => by
    obtain ⟨i1, i2⟩ := dp_rows ht h12 g (by omega)
    have hc := dp_cnt ht g (by omega)
    refine ⟨fun j hj => ?_, ?_⟩
    · rw [dpY, do_row (U := up (dpY V q g) 20 0 17 (dpY V q g 20 0 17 + dpY V q g 35 0 (12 * q))) (j := j) (u := t - g) hc (by omega) (by omega)]
      show dpY V q g 35 0 (12 * q + (j + 1)) = _
      rw [i1 (j + 1) (by omega)]
      congr 2; omega
    · rw [dpY, do_o (by decide) (by decide)]
      show dpY V q g 20 0 17 + dpY V q g 35 0 (12 * q) = _
      have e0 := i1 0 (by omega)
      rw [Nat.add_zero, Nat.zero_add] at e0
      rw [i2, e0, sumT, Int32.add_assoc]; rfl
