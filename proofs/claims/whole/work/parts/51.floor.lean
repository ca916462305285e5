theorem xor745 (x : Int32) : 0 ≤ x ^^^ 745 ↔ 0 ≤ x := by
  have h0 : ∀ v : Int32, 0 ≤ v ↔ v.toBitVec.msb = false := by
    intro v
    rw [Int32.le_iff_toInt_le, show (0 : Int32).toInt = 0 from rfl, ← Int32.toInt_toBitVec, BitVec.msb_eq_toInt]
    simp
  rw [h0, h0, Int32.toBitVec_xor, BitVec.msb_xor]
  have : (745 : Int32).toBitVec.msb = false := by decide
  rw [this, Bool.xor_false]
theorem rem745 (y : Int32) : ∃ q : Int, y.toInt = 745 * q + (y % 745).toInt ∧ -745 < (y % 745).toInt ∧ (y % 745).toInt < 745 ∧ ((y % 745).toInt ≤ 0 ∨ 0 ≤ y.toInt) ∧ (0 ≤ (y % 745).toInt ∨ y.toInt < 0) := by
  have h0 : ((y % 745).toInt) = y.toInt.tmod 745 := Int32.toInt_mod y 745
  have hA : -745 < y.toInt.tmod 745 := Int.lt_tmod_of_pos _ (by decide)
  have hB : y.toInt.tmod 745 < 745 := Int.tmod_lt_of_pos _ (by decide)
  refine ⟨y.toInt.tdiv 745, ?_, by omega, by omega, ?_, ?_⟩
  · rw [h0]; exact (Int.mul_tdiv_add_tmod y.toInt 745).symm
  · rcases Int.lt_or_le y.toInt 0 with z | z
    · left
      rw [h0]
      have := Int.tmod_nonneg (a := -y.toInt) 745 (by omega)
      rw [Int.neg_tmod] at this
      omega
    · exact Or.inr z
  · rcases Int.lt_or_le y.toInt 0 with z | z
    · exact Or.inr z
    · left; rw [h0]; exact Int.tmod_nonneg 745 z
theorem add745 {y : Int32} (h : y.toInt < 0) (h' : -745 < y.toInt) : (y + 745).toInt = y.toInt + 745 := by
  rw [Int32.toInt_add, show (745 : Int32).toInt = 745 from rfl]
  exact Int.bmod_eq_of_le_mul_two (by omega) (by omega)
theorem bhd_int (y : Int32) : (bhd y).toInt = y.toInt % 745 := by
  obtain ⟨q, h1, h2, h3, h4, h5⟩ := rem745 y
  unfold bhd
  rw [irem_eq_mod]
  split
  · rename_i z
    have z1 : (y % 745).toInt < (0 : Int) := Int32.lt_iff_toInt_lt.mp z
    rw [add745 z1 h2]; omega
  · rename_i z
    have z1 : ¬ (y % 745).toInt < (0 : Int) := fun w => z (Int32.lt_iff_toInt_lt.mpr w)
    omega
theorem fmod_int (x : Int32) : (fmod x 745).toInt = x.toInt % 745 := by
  obtain ⟨q, h1, h2, h3, h4, h5⟩ := rem745 x
  unfold fmod
  rw [irem_eq_mod]
  have hx : 0 ≤ x ^^^ 745 ↔ (0 : Int) ≤ x.toInt := (xor745 x).trans Int32.le_iff_toInt_le
  split
  · rename_i z; have := hx.mp z; omega
  · rename_i z
    have z1 : x.toInt < 0 := by
      rcases Int.lt_or_le x.toInt 0 with w | w
      · exact w
      · exact absurd (hx.mpr w) z
    split
    · rename_i w; rw [w]
      rw [w] at h1
      have : (0 : Int32).toInt = 0 := rfl
      omega
    · rename_i w
      have w1 : ¬ (x % 745).toInt = 0 := fun k => w (Int32.toInt_inj.mp (k.trans rfl))
      rw [add745 (by omega) h2]; omega
/-- the class's minutes to the high water and the Model's minutes behind it -/
theorem fmod_bhd {x y : Int32} (h : x.toInt = - y.toInt) : ∃ m, m < 745 ∧ fmod x 745 = nI m ∧ bhd y = nI ((745 - m) % 745) := by
  have h1 := fmod_int x
  have h2 := bhd_int y
  refine ⟨(x.toInt % 745).toNat, by omega, ?_, ?_⟩
  · apply Int32.toInt_inj.mp
    rw [h1, nI_toInt (by omega)]; omega
  · apply Int32.toInt_inj.mp
    rw [h2, nI_toInt (by omega)]; omega
