theorem beh_sh (A u D C : Int32) : A + u - D - C = (A - D - C) + u := by grind
/-- the class's minutes to the high water are the first that the Model finds -/
theorem mth_rel {x y : Int32} (h : x.toInt = - y.toInt) (hb : -1000000000 < y.toInt ∧ y.toInt < 1000000000) : ∃ r, r < 745 ∧ fmod x 745 = nI r ∧ bhd (y + nI r) = 0 ∧ ∀ j, j < r → ¬ bhd (y + nI j) = 0 := by
  have h1 := fmod_int x
  have hs : ∀ j : Nat, j < 745 → (bhd (y + nI j)).toInt = (y.toInt + j) % 745 := by
    intro j hj
    have e : (y + nI j).toInt = y.toInt + j := by
      rw [Int32.toInt_add, nI_toInt (by omega)]
      exact Int.bmod_eq_of_le_mul_two (by omega) (by omega)
    rw [bhd_int, e]
  refine ⟨(x.toInt % 745).toNat, by omega, ?_, ?_, fun j hj hz => ?_⟩
  · apply Int32.toInt_inj.mp
    rw [h1, nI_toInt (by omega)]; omega
  · apply Int32.toInt_inj.mp
    rw [hs _ (by omega), show (0 : Int32).toInt = 0 from rfl]; omega
  · have := hs j (by omega)
    rw [hz, show (0 : Int32).toInt = 0 from rfl] at this
    omega
/-- the two ways of judging a fisherman -/
theorem jdY_jdg (t d : Int32) : jdY t d = jdg t d := by
  unfold jdY jdg
  split
  · by_cases h : t + 1 < 9
    · rw [if_pos h, if_neg (Int32.lt_asymm h)]
    · rw [if_neg h]
      by_cases h2 : 9 < t + 1
      · rw [if_pos h2]
      · rw [if_neg h2]
        exact Int32.le_antisymm (Int32.not_lt.mp h) (Int32.not_lt.mp h2)
  · by_cases h : 1 < t - 1
    · rw [if_pos h, if_neg (Int32.lt_asymm h)]
    · rw [if_neg h]
      by_cases h2 : t - 1 < 1
      · rw [if_pos h2]
      · rw [if_neg h2]
        exact Int32.le_antisymm (Int32.not_lt.mp h2) (Int32.not_lt.mp h)
/-- equal reports and trusts: the same correction -/
theorem corr_congr {a w a' w' : Nat → Int32} : ∀ c, (∀ j, j < c → a j = a' j ∧ w j = w' j) → cSum a w c = cSum a' w' c ∧ cAll w c = cAll w' c
  | 0, _ => ⟨rfl, rfl⟩
  | c + 1, h => by
    obtain ⟨e1, e2⟩ := corr_congr c (fun j hj => h j (by omega))
    obtain ⟨e3, e4⟩ := h c (by omega)
    exact ⟨by rw [cSum, cSum, e1, e3, e4], by rw [cAll, cAll, e2, e4]⟩
theorem corr_eq {a w a' w' : Nat → Int32} {c : Nat} (h : ∀ j, j < c → a j = a' j ∧ w j = w' j) : corr a w c = corr a' w' c := by
  obtain ⟨e1, e2⟩ := corr_congr c h
  unfold corr; rw [e1, e2]
