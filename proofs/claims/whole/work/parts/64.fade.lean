/-- a line of the state s, painted on the day v (as a number), after u days from the day t: day by day -/
def fdI (t v : Nat) : Nat → Int32 → Int32
  | 0, s => s
  | u + 1, s => if fdI t v u s = 1 ∧ nI v + 7 = nI (t + (u + 1)) then 3 else fdI t v u s
theorem fdI_other {t v : Nat} {s : Int32} (h : ¬ s = 1) : ∀ u, fdI t v u s = s
  | 0 => rfl
  | u + 1 => by rw [fdI, fdI_other h u, if_neg (fun q => h q.1)]
/-- and at once -/
theorem fdI_one {t v : Nat} (h1 : v ≤ t) (h2 : t < v + 7) (ht : t < 1000000) : ∀ u, u ≤ 1000 → fdI t v u 1 = if v + 7 ≤ t + u then 3 else 1
  | 0, _ => by rw [fdI, if_neg (by omega)]
  | u + 1, hu => by
    rw [fdI, fdI_one h1 h2 ht u (by omega)]
    have e : nI v + 7 = nI (v + 7) := jx_add (b := 7) rfl rfl
    have q : nI v + 7 = nI (t + (u + 1)) ↔ v + 7 = t + (u + 1) := by rw [e]; exact neq (by omega) (by omega) rfl rfl
    by_cases z : v + 7 ≤ t + u
    · rw [if_pos z, if_pos (show v + 7 ≤ t + (u + 1) by omega), if_neg (fun w => absurd w.1 (by decide))]
    · rw [if_neg z]
      by_cases z2 : v + 7 = t + (u + 1)
      · rw [if_pos ⟨rfl, q.mpr z2⟩, if_pos (by omega)]
      · rw [if_neg (fun w => z2 (q.mp w.2)), if_neg (by omega)]
theorem fad_one {t v u : Nat} (h1 : v ≤ t) (ht : t < 1000000) (hu : u ≤ 1000) : (nI (t + u) - nI v < 7) ↔ ¬ v + 7 ≤ t + u := by
  have e : nI (t + u) - nI v = nI (t + u - v) := pk_sub (by omega)
  rw [e]
  have q : nI (t + u - v) < 7 ↔ t + u - v < 7 := nlt (b := 7) (by omega) (by decide) rfl rfl
  rw [q]; omega
