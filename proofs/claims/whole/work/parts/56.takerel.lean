theorem tkU_row {W : jV} {q t g j : Nat} {x : Int32} (ht : W 34 0 q = nI t) (h12 : t ≤ 12) (hg : g < t) (hj : j + g < t) : tkU W q x g 35 0 (12 * q + j) = if j = 0 then W 35 0 (12 * q + g) - x else W 35 0 (12 * q + (j + g)) := by
  obtain ⟨i1, _⟩ := dp_rows (q := q) ht h12 g (by omega)
  have e0 := i1 0 (by omega)
  rw [Nat.add_zero, Nat.zero_add] at e0
  unfold tkU
  by_cases h : j = 0
  · subst h
    rw [if_pos rfl, Nat.add_zero, ← e0]
    simp [up]
  · rw [if_neg h, ← i1 j hj]
    unfold up; rw [if_neg (by omega)]
theorem tkU_cnt {W : jV} {q t g : Nat} {x : Int32} (ht : W 34 0 q = nI t) (hg : g < t) : tkU W q x g 34 0 q = nI (t - g) := dp_cnt ht g (by omega)
theorem tkU_17 {W : jV} {q t g : Nat} {x : Int32} (ht : W 34 0 q = nI t) (h12 : t ≤ 12) (hg : g < t) : tkU W q x g 20 0 17 = W 20 0 17 + sumT (ytin W q) g := (dp_rows ht h12 g (by omega)).2
theorem nI_sub {t u : Nat} (h : u ≤ t) : nI t - nI u = nI (t - u) := pk_sub h
theorem tkV_at {V : jV} {q t g : Nat} {x : Int32} (hV : V 4 q 1 = nI t) (hT : (if V 5 q g - x = 0 then g + 1 else g) ≤ t) :
    tkV V q x g t 4 q 1 = nI (t - if V 5 q g - x = 0 then g + 1 else g) ∧
    (∀ j, (j + if V 5 q g - x = 0 then g + 1 else g) < t → tkV V q x g t 5 q j = if (j + if V 5 q g - x = 0 then g + 1 else g) = g then V 5 q g - x else V 5 q (j + if V 5 q g - x = 0 then g + 1 else g)) ∧
    tkV V q x g t 4 q 2 = V 4 q 2 + sumT (tcon V q) g := by
  unfold tkV rmoF
  generalize (if V 5 q g - x = 0 then g + 1 else g) = T at *
  refine ⟨?_, fun j hj => ?_, ?_⟩
  · rw [← nI_sub hT, ← hV]; simp [up]
  · have e : ∀ Z : jV, up (rmoV Z q T t) 4 q 1 (Z 4 q 1 - nI T) 5 q j = Z 5 q (j + T) := by
      intro Z; unfold up rmoV; rw [if_neg (by omega), if_pos ⟨rfl, rfl, hj⟩]
    rw [e]
    by_cases h : j + T = g
    · rw [if_pos h, h]; simp [up]
    · rw [if_neg h]; unfold up; rw [if_neg (by omega), if_neg (by omega)]
  · have e : ∀ Z : jV, up (rmoV Z q T t) 4 q 1 (Z 4 q 1 - nI T) 4 q 2 = Z 4 q 2 := by
      intro Z; unfold up rmoV; rw [if_neg (by omega), if_neg (by omega)]
    rw [e]; simp [up]
/-- the class's and the Model's taking of paint: the same tins are left -/
theorem tk_rel {V W : jV} {q t g : Nat} {x : Int32} (hV : V 4 q 1 = nI t) (hW : W 34 0 q = nI t) (h12 : t ≤ 12) (hr : ∀ j, j < t → W 35 0 (12 * q + j) = V 5 q j) (hg : g < t) :
    tkY W q x g 34 0 q = tkV V q x g t 4 q 1 ∧ (∀ j, j < tn (tkV V q x g t 4 q 1) → tkY W q x g 35 0 (12 * q + j) = tkV V q x g t 5 q j) ∧ tkY W q x g 20 0 17 = W 20 0 17 + sumT (tcon V q) g := by
  have hs : sumT (ytin W q) g = sumT (tcon V q) g := sumT_congr g (fun j hj => hr j (by omega))
  have e0 : tkU W q x g 35 0 (12 * q) = V 5 q g - x := by
    have := tkU_row (x := x) (j := 0) hW h12 hg (by omega)
    rw [Nat.add_zero, if_pos rfl, hr g hg] at this
    exact this
  have hc := tkU_cnt (x := x) hW hg
  have h7 := tkU_17 (x := x) hW h12 hg
  have hT : (if V 5 q g - x = 0 then g + 1 else g) ≤ t := by split <;> omega
  obtain ⟨v1, v2, _⟩ := tkV_at (V := V) (q := q) (g := g) (x := x) hV hT
  rw [v1, tn_nI (by omega)]
  unfold tkY
  rw [e0]
  by_cases h : V 5 q g - x = 0
  · simp only [if_pos h] at v2 hT ⊢
    refine ⟨?_, fun j hj => ?_, ?_⟩
    · rw [do_cnt hc (by omega)]; congr 1
    · rw [do_row hc (by omega) (by omega), tkU_row hW h12 hg (by omega), if_neg (by omega), v2 j (by omega), if_neg (by omega), hr _ (by omega)]
      congr 1; omega
    · rw [do_o (by decide) (by decide), h7, hs]
  · simp only [if_neg h] at v2 hT ⊢
    refine ⟨hc, fun j hj => ?_, by rw [h7, hs]⟩
    rw [tkU_row hW h12 hg (by omega), v2 j (by omega)]
    by_cases z : j = 0
    · rw [if_pos z, if_pos (by omega), hr g hg]
    · rw [if_neg z, if_neg (by omega), hr _ (by omega)]
