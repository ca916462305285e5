theorem hk_lt2 {β t M : Nat} (h : (β + t) % 745 = 0 ∨ (β + t) % 745 = 372) (hM : t < M) : hk β t < hk β M := by unfold hk; omega
/-- the row that findTable leaves for a water at the minute t -/
theorem fT_row {V : jV} {β t : Nat} (h : (β + t) % 745 = 0 ∨ (β + t) % 745 = 372) : ∀ M, t < M → fT V β M 51 0 (hk β t) = nI t ∧ fT V β M 52 0 (hk β t) = if (β + t) % 745 = 0 then 0 else 1
  | 0, hM => absurd hM (by omega)
  | M + 1, hM => by
    rcases Nat.lt_or_eq_of_le (Nat.le_of_lt_succ hM) with q | q
    · have ih := fT_row (V := V) h M q
      have hl := hk_lt2 h q
      by_cases h0 : (β + M) % 745 = 0
      · rw [fT_0 h0]
        unfold up
        rw [if_neg (by omega), if_neg (by omega), if_neg (by omega), if_neg (by omega), if_neg (by omega), if_neg (by omega)]
        exact ih
      · by_cases h1 : (β + M) % 745 = 372
        · rw [fT_1 h1]
          unfold up
          rw [if_neg (by omega), if_neg (by omega), if_neg (by omega), if_neg (by omega), if_neg (by omega), if_neg (by omega)]
          exact ih
        · rw [fT_n h0 h1]; exact ih
    · subst q
      by_cases h0 : (β + t) % 745 = 0
      · rw [fT_0 h0, if_pos h0]
        exact ⟨by simp [up], by simp [up]⟩
      · have h1 : (β + t) % 745 = 372 := by omega
        rw [fT_1 h1, if_neg h0]
        exact ⟨by simp [up], by simp [up]⟩
/-- the minute of the water j, when the first high water comes m minutes after midnight -/
def wtm (m j : Nat) : Nat := if m < 373 then m + 745 * (j / 2) + 372 * (j % 2) else m - 373 + 745 * (j / 2) + 373 * (j % 2)
def wth (m j : Nat) : Nat := if m < 373 then (j + 1) % 2 else j % 2
theorem wt_0 {m j : Nat} (h : wth m j = 0) : wtm m (j + 1) = wtm m j + 373 ∧ wth m (j + 1) = 1 := by
  unfold wth wtm at *
  by_cases q : m < 373
  · simp only [if_pos q] at *; omega
  · simp only [if_neg q] at *; omega
theorem wt_1 {m j : Nat} (h : ¬ wth m j = 0) : wtm m (j + 1) = wtm m j + 372 ∧ wth m (j + 1) = 0 := by
  unfold wth wtm at *
  by_cases q : m < 373
  · simp only [if_pos q] at *; omega
  · simp only [if_neg q] at *; omega
theorem wth_lt (m j : Nat) : wth m j < 2 := by unfold wth; split <;> omega
theorem wst_cl {m : Nat} (hm : m < 745) : ∀ j, wst (w0m (nI m)) (w0h (nI m)) j = (nI (wtm m j), nI (wth m j))
  | 0 => by
    have hq : nI m < 373 ↔ m < 373 := nlt (b := 373) (by omega) (by decide) rfl rfl
    unfold wst w0m w0h wtm wth
    by_cases h : m < 373
    · rw [if_pos (hq.mpr h), if_pos (hq.mpr h), if_pos h, if_pos h]; rfl
    · rw [if_neg (fun q => h (hq.mp q)), if_neg (fun q => h (hq.mp q)), if_neg h, if_neg h]
      have e : nI m + -373 = nI (m - 373) := by
        rw [← pk_sub (a := m) (b := 373) (by omega), Int32.sub_eq_add_neg]; rfl
      rw [e, show m - 373 + 745 * (0 / 2) + 373 * (0 % 2) = m - 373 by omega]; rfl
  | j + 1 => by
    rw [wst, wst_cl hm j]
    have hl := wth_lt m j
    have hz : nI (wth m j) = 0 ↔ wth m j = 0 := neq (b := 0) (by omega) (by decide) rfl rfl
    by_cases h : wth m j = 0
    · rw [if_pos (hz.mpr h), if_pos (hz.mpr h), (wt_0 h).1, (wt_0 h).2]
      exact congrArg (·, (1 : Int32)) (jx_add (b := 373) rfl rfl)
    · rw [if_neg (fun q => h (hz.mp q)), if_neg (fun q => h (hz.mp q)), (wt_1 h).1, (wt_1 h).2]
      exact congrArg (·, (0 : Int32)) (jx_add (b := 372) rfl rfl)
/-- the waters of the two tables: as many, at the same minutes, of the opposite mark -/
theorem hk_wtm {β m j : Nat} (hm : m < 745) (hb : β = (745 - m) % 745) (hj : wtm m j < 1440) : j < 4 ∧ hk β (wtm m j) = j ∧ ((β + wtm m j) % 745 = 0 ↔ wth m j = 1) ∧ ((β + wtm m j) % 745 = 372 ↔ wth m j = 0) := by
  have h4 : j < 4 := by
    unfold wtm at hj
    split at hj <;> omega
  have hc : j = 0 ∨ j = 1 ∨ j = 2 ∨ j = 3 := by omega
  refine ⟨h4, ?_⟩
  have hb2 : (m = 0 ∧ β = 0) ∨ (0 < m ∧ β = 745 - m) := by
    rcases Nat.eq_zero_or_pos m with z | z
    · exact Or.inl ⟨z, by rw [hb, z]⟩
    · exact Or.inr ⟨z, by rw [hb, Nat.mod_eq_of_lt (by omega)]⟩
  clear hb
  by_cases q : m < 373
  · have hw : wtm m j = m + 745 * (j / 2) + 372 * (j % 2) := by unfold wtm; rw [if_pos q]
    have hh : wth m j = (j + 1) % 2 := by unfold wth; rw [if_pos q]
    rw [hw, hh]
    rw [hw] at hj
    unfold hk
    rcases hb2 with ⟨rfl, rfl⟩ | ⟨z, rfl⟩ <;> rcases hc with rfl | rfl | rfl | rfl <;> (refine ⟨?_, ⟨fun _ => ?_, fun _ => ?_⟩, ⟨fun _ => ?_, fun _ => ?_⟩⟩ <;> omega)
  · have hw : wtm m j = m - 373 + 745 * (j / 2) + 373 * (j % 2) := by unfold wtm; rw [if_neg q]
    have hh : wth m j = j % 2 := by unfold wth; rw [if_neg q]
    rw [hw, hh]
    rw [hw] at hj
    unfold hk
    rcases hb2 with ⟨rfl, rfl⟩ | ⟨z, rfl⟩ <;> rcases hc with rfl | rfl | rfl | rfl <;> (refine ⟨?_, ⟨fun _ => ?_, fun _ => ?_⟩, ⟨fun _ => ?_, fun _ => ?_⟩⟩ <;> omega)
theorem hk_end {β m j : Nat} (hm : m < 745) (hb : β = (745 - m) % 745) (hj : 1440 ≤ wtm m j) (hj' : ∀ i, i < j → wtm m i < 1440) (h4 : j ≤ 4) : hk β 1440 = j := by
  have h0 : 0 < j := by
    rcases Nat.eq_zero_or_pos j with q | q
    · subst q; unfold wtm at hj; split at hj <;> omega
    · exact q
  have h1 := hj' (j - 1) (by omega)
  unfold wtm hk at *
  by_cases q : m < 373
  · simp only [if_pos q] at *; omega
  · simp only [if_neg q] at *; omega
