/-- the reports of a pier, as a list of its first c rows: a place for the fisherman, the minutes and the age -/
def rwL (a b d : Nat → Int32) : Nat → List (Int32 × Int32 × Int32)
  | 0 => []
  | c + 1 => rwL a b d c ++ [(a c, b c, d c)]
theorem rwL_len (a b d : Nat → Int32) : ∀ c, (rwL a b d c).length = c
  | 0 => rfl
  | c + 1 => by rw [rwL, List.length_append, rwL_len a b d c]; rfl
theorem rwL_congr {a b d a' b' d' : Nat → Int32} : ∀ c, (∀ j, j < c → a j = a' j ∧ b j = b' j ∧ d j = d' j) → rwL a b d c = rwL a' b' d' c
  | 0, _ => rfl
  | c + 1, h => by
    obtain ⟨h1, h2, h3⟩ := h c (by omega)
    rw [rwL, rwL, rwL_congr c (fun j hj => h j (by omega)), h1, h2, h3]
theorem rwL_get {a b d : Nat → Int32} : ∀ (c j : Nat), j < c → (rwL a b d c)[j]? = some (a j, b j, d j)
  | 0, _, h => absurd h (by omega)
  | c + 1, j, h => by
    rw [rwL]
    rcases Nat.lt_or_eq_of_le (Nat.le_of_lt_succ h) with q | q
    · rw [List.getElem?_append_left (by rw [rwL_len]; exact q)]; exact rwL_get c j q
    · subst q
      rw [List.getElem?_append_right (by rw [rwL_len]; exact Nat.le_refl _), rwL_len, Nat.sub_self]; rfl
theorem rwL_inj {a b d a' b' d' : Nat → Int32} {c c' : Nat} (h : rwL a b d c = rwL a' b' d' c') : c = c' ∧ ∀ j, j < c → a j = a' j ∧ b j = b' j ∧ d j = d' j := by
  have hc : c = c' := by have := congrArg List.length h; rwa [rwL_len, rwL_len] at this
  subst hc
  refine ⟨rfl, fun j hj => ?_⟩
  have := congrArg (fun l => l[j]?) h
  simp only [rwL_get c j hj, Option.some.injEq, Prod.mk.injEq] at this
  exact this
