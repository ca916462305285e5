/-- a pier more -/
theorem Inv_pier {T n : Nat} {V W : jV} {b1 b2 b3 b4 b5 : Int32} (h : Inv T n V W) (hn : n < 6) (hA : okA b1 b2 b3 b4 b5) :
    Inv T (n + 1) (up (v1 (clV V 10 n) n b1 b2 b3 b4 b5) 0 0 1 (nI n + 1)) (up (up (up (up (up (up W 24 0 n b1) 25 0 n b2) 26 0 n b3) 27 0 n b4) 28 0 n b5) 20 0 1 (nI n + 1)) := by
  obtain ⟨iA, iB, iC, iD, iE⟩ := h
  have e1 : nI n + 1 = nI (n + 1) := jx_add (b := 1) rfl rfl
  rw [e1]
  have fX : ∀ k i j, ¬ (k = 0 ∧ j = 1) → (¬ i = n ∨ ¬ (6 ≤ k ∧ k ≤ 17)) → up (v1 (clV V 10 n) n b1 b2 b3 b4 b5) 0 0 1 (nI (n + 1)) k i j = V k i j := fun k i j z1 z2 => by
    unfold v1 v2 v0 v3 clV up
    dsimp only
    repeat rw [if_neg (by omega)]
  have x1 : up (v1 (clV V 10 n) n b1 b2 b3 b4 b5) 0 0 1 (nI (n + 1)) 0 0 1 = nI (n + 1) := by simp [up]
  have x10 : up (v1 (clV V 10 n) n b1 b2 b3 b4 b5) 0 0 1 (nI (n + 1)) 10 n 0 = b1 ∧ up (v1 (clV V 10 n) n b1 b2 b3 b4 b5) 0 0 1 (nI (n + 1)) 10 n 1 = b2 ∧ up (v1 (clV V 10 n) n b1 b2 b3 b4 b5) 0 0 1 (nI (n + 1)) 10 n 2 = b3 ∧ up (v1 (clV V 10 n) n b1 b2 b3 b4 b5) 0 0 1 (nI (n + 1)) 10 n 3 = b4 ∧ up (v1 (clV V 10 n) n b1 b2 b3 b4 b5) 0 0 1 (nI (n + 1)) 10 n 4 = b5 := by
    refine ⟨?_, ?_, ?_, ?_, ?_⟩ <;> simp [v1, v2, v0, v3, clV, up]
  have x11 : up (v1 (clV V 10 n) n b1 b2 b3 b4 b5) 0 0 1 (nI (n + 1)) 11 n 3 = 0 := by simp [v1, v2, v0, v3, clV, up]
  have x15 : up (v1 (clV V 10 n) n b1 b2 b3 b4 b5) 0 0 1 (nI (n + 1)) 15 n 3 = -1 ∧ up (v1 (clV V 10 n) n b1 b2 b3 b4 b5) 0 0 1 (nI (n + 1)) 15 n 4 = 0 := by
    refine ⟨?_, ?_⟩ <;> simp [v1, v2, v0, v3, clV, up]
  have x6 : up (v1 (clV V 10 n) n b1 b2 b3 b4 b5) 0 0 1 (nI (n + 1)) 6 n 3 = 0 := by simp [v1, v2, v0, v3, clV, up]
  have fY : ∀ k j, ¬ (k = 20 ∧ j = 1) → ¬ (24 ≤ k ∧ k ≤ 28 ∧ j = n) → up (up (up (up (up (up W 24 0 n b1) 25 0 n b2) 26 0 n b3) 27 0 n b4) 28 0 n b5) 20 0 1 (nI (n + 1)) k 0 j = W k 0 j := fun k j z1 z2 => by
    unfold up; rw [if_neg (by omega), if_neg (by omega), if_neg (by omega), if_neg (by omega), if_neg (by omega), if_neg (by omega)]
  have y1 : up (up (up (up (up (up W 24 0 n b1) 25 0 n b2) 26 0 n b3) 27 0 n b4) 28 0 n b5) 20 0 1 (nI (n + 1)) 20 0 1 = nI (n + 1) := by simp [up]
  have y24 : up (up (up (up (up (up W 24 0 n b1) 25 0 n b2) 26 0 n b3) 27 0 n b4) 28 0 n b5) 20 0 1 (nI (n + 1)) 24 0 n = b1 ∧ up (up (up (up (up (up W 24 0 n b1) 25 0 n b2) 26 0 n b3) 27 0 n b4) 28 0 n b5) 20 0 1 (nI (n + 1)) 25 0 n = b2 ∧ up (up (up (up (up (up W 24 0 n b1) 25 0 n b2) 26 0 n b3) 27 0 n b4) 28 0 n b5) 20 0 1 (nI (n + 1)) 26 0 n = b3 ∧ up (up (up (up (up (up W 24 0 n b1) 25 0 n b2) 26 0 n b3) 27 0 n b4) 28 0 n b5) 20 0 1 (nI (n + 1)) 27 0 n = b4 ∧ up (up (up (up (up (up W 24 0 n b1) 25 0 n b2) 26 0 n b3) 27 0 n b4) 28 0 n b5) 20 0 1 (nI (n + 1)) 28 0 n = b5 := by
    refine ⟨?_, ?_, ?_, ?_, ?_⟩ <;> simp [up]
  generalize up (v1 (clV V 10 n) n b1 b2 b3 b4 b5) 0 0 1 (nI (n + 1)) = X at *
  generalize up (up (up (up (up (up W 24 0 n b1) 25 0 n b2) 26 0 n b3) 27 0 n b4) 28 0 n b5) 20 0 1 (nI (n + 1)) = Y at *
  refine ⟨⟨by omega, x1, y1, fun i hi => ?_⟩, ⟨fun f hf => ?_, fun f hf => ?_, fun i hi => ?_, fun i h1 h2 => ?_⟩, fun i hi => ?_, ⟨?_, ?_, ?_, fun i hi => ?_, ?_, fun i h1 h2 => ?_⟩,
    IE_congr iE (fun k i j z => fX k i j (by omega) (by omega)) (fun k j z => fY k j (by omega) (by omega))⟩
  · by_cases e : i = n
    · subst e
      obtain ⟨u0, u1, u2, u3, u4⟩ := x10
      obtain ⟨w0, w1, w2, w3, w4⟩ := y24
      rw [u0, u1, u2, u3, u4, w0, w1, w2, w3, w4]
      exact ⟨hA, rfl, rfl, rfl, rfl, rfl⟩
    · rw [fX 10 i 0 (by omega) (by omega), fX 10 i 1 (by omega) (by omega), fX 10 i 2 (by omega) (by omega), fX 10 i 3 (by omega) (by omega), fX 10 i 4 (by omega) (by omega), fY 24 i (by omega) (by omega), fY 25 i (by omega) (by omega), fY 26 i (by omega) (by omega), fY 27 i (by omega) (by omega), fY 28 i (by omega) (by omega)]
      exact iA.2.2.2 i (by omega)
  · rw [fX 2 0 f (by omega) (by omega)]; exact iB.1 f hf
  · rw [fY 29 f (by omega) (by omega), fX 2 0 f (by omega) (by omega)]; exact iB.2.1 f hf
  · by_cases e : i = n
    · subst e
      refine ⟨0, ⟨x11, ?_, by omega, fun j hj => absurd hj (by omega), fun f hf => ?_, fun j hj => absurd hj (by omega)⟩, fun j hj => absurd hj (by omega), fun j k _ hk => absurd hk (by omega)⟩
      · rw [fY 30 i (by omega) (by omega)]; exact iB.2.2.2 i (by omega) hn
      · rw [fY 29 f (by omega) (by omega), fX 2 0 f (by omega) (by omega)]; exact iB.2.1 f hf
    · obtain ⟨c, q, r⟩ := iB.2.2.1 i (by omega)
      exact ⟨c, QR_congr q (fun k j z => fX k i j (by omega) (by omega)) (fun j => fX 2 0 j (by omega) (by omega)) (fun k j z => fY k j (by omega) (by omega)), RB_congr r (fun k j z => fX k i j (by omega) (by omega))⟩
  · rw [fY 30 i (by omega) (by omega)]; exact iB.2.2.2 i (by omega) h2
  · rw [fY 39 i (by omega) (by omega), fX 3 0 i (by omega) (by omega)]
    obtain ⟨q1, q2, q3⟩ := iC i hi
    exact ⟨q1, q2, fun z => q3 (by omega)⟩
  · rw [fX 0 0 7 (by omega) (by omega)]; exact iD.1
  · rw [fY 20 2 (by omega) (by omega)]; exact iD.2.1
  · rw [fY 20 19 (by omega) (by omega), fX 0 0 8 (by omega) (by omega)]; exact iD.2.2.1
  · by_cases e : i = n
    · subst e
      obtain ⟨d1, d2, d3⟩ := iD.2.2.2.2.2 i (by omega) hn
      refine ⟨0, by omega, x6, ?_, ?_, Or.inl x15.1, ?_, fun j hj => absurd hj (by omega)⟩
      · rw [fY 43 i (by omega) (by omega)]; exact d2
      · rw [fY 42 i (by omega) (by omega), x15.1]; exact d1
      · rw [fY 44 i (by omega) (by omega), x15.2]; exact d3
    · obtain ⟨c, q⟩ := iD.2.2.2.1 i (by omega)
      exact ⟨c, BR_congr q (fun k j z => fX k i j (by omega) (by omega)) (fun k j z => fY k j (by omega) (by omega))⟩
  · rcases iD.2.2.2.2.1 with q | ⟨a, j, c, e1, e2, e3, e4, e5, e6, e7⟩
    · exact Or.inl ((fX 0 0 8 (by omega) (by omega)).trans q)
    · refine Or.inr ⟨a, j, c, by omega, e2, e3, (fX 0 0 8 (by omega) (by omega)).trans e4, (fY 20 20 (by omega) (by omega)).trans e5, (fX 6 a 3 (by omega) (by omega)).trans e6, fun k hk => ?_⟩
      rw [fX 16 a k (by omega) (by omega)]; exact e7 k hk
  · rw [fY 42 i (by omega) (by omega), fY 43 i (by omega) (by omega), fY 44 i (by omega) (by omega)]
    exact iD.2.2.2.2.2 i (by omega) h2
/-- the two new objects -/
theorem Inv_init (V : jV) : Inv 0 0 (clV (v6 (clV (v5b (clV V 0 0) 6 6) 20 0)) 60 0) (clV (v6 (clV (v5b (clV V 0 0) 6 6) 20 0)) 60 0) := by
  have s1 : ∀ k i j, k < 20 → clV (v6 (clV (v5b (clV V 0 0) 6 6) 20 0)) 60 0 k i j = v5b (clV V 0 0) 6 6 k i j := fun k i j hk => by
    unfold v6 clV up
    dsimp only
    repeat rw [if_neg (by omega)]
  have t2 : ∀ j, j < 6 → v5b (clV V 0 0) 6 6 2 0 j = 5 := fun j hj => by simp [v5b, hj]
  have t3 : ∀ j, j < 6 → v5b (clV V 0 0) 6 6 3 0 j = -1 := fun j hj => by simp [v5b, hj]
  have t01 : v5b (clV V 0 0) 6 6 0 0 1 = 0 := by simp [v5b, v5a, v3, v4, clV, up]
  have t07 : v5b (clV V 0 0) 6 6 0 0 7 = 0 := by simp [v5b, v5a, v3, v4, clV, up]
  have t08 : v5b (clV V 0 0) 6 6 0 0 8 = -1 := by simp [v5b, v5a, v3, v4, clV, up]
  have t09 : v5b (clV V 0 0) 6 6 0 0 9 = 0 := by simp [v5b, v5a, v3, v4, clV, up]
  have t010 : v5b (clV V 0 0) 6 6 0 0 10 = 0 := by simp [v5b, v5a, v3, v4, clV, up]
  have t4 : ∀ q, q < 2 → v5b (clV V 0 0) 6 6 4 q 1 = 0 ∧ v5b (clV V 0 0) 6 6 4 q 2 = 0 := fun q hq => by
    rcases (show q = 0 ∨ q = 1 by omega) with e | e <;> subst e <;> exact ⟨by simp [v5b, v5a, v3, v4, clV, up], by simp [v5b, v5a, v3, v4, clV, up]⟩
  generalize v5b (clV V 0 0) 6 6 = A at *
  have w : ∀ j, j < 6 → clV (v6 (clV A 20 0)) 60 0 29 0 j = 5 ∧ clV (v6 (clV A 20 0)) 60 0 39 0 j = -1 ∧ clV (v6 (clV A 20 0)) 60 0 42 0 j = -1 := fun j hj => by
    rcases (show j = 0 ∨ j = 1 ∨ j = 2 ∨ j = 3 ∨ j = 4 ∨ j = 5 by omega) with e | e | e | e | e | e <;> subst e <;> exact ⟨by simp [v6, clV, up], by simp [v6, clV, up], by simp [v6, clV, up]⟩
  have w30 : ∀ j, clV (v6 (clV A 20 0)) 60 0 30 0 j = 0 := fun j => by simp [v6, clV, up]
  have w43 : ∀ j, clV (v6 (clV A 20 0)) 60 0 43 0 j = 0 := fun j => by simp [v6, clV, up]
  have w44 : ∀ j, clV (v6 (clV A 20 0)) 60 0 44 0 j = 0 := fun j => by simp [v6, clV, up]
  have w34 : ∀ j, clV (v6 (clV A 20 0)) 60 0 34 0 j = 0 := fun j => by simp [v6, clV, up]
  have w20 : ∀ j, ¬ j = 19 → clV (v6 (clV A 20 0)) 60 0 20 0 j = 0 := fun j hj => by simp [v6, clV, up, hj]
  have w19 : clV (v6 (clV A 20 0)) 60 0 20 0 19 = -1 := by simp [v6, clV, up]
  generalize clV (v6 (clV A 20 0)) 60 0 = X at *
  refine ⟨⟨by omega, (s1 0 0 1 (by omega)).trans t01, w20 1 (by omega), fun i hi => absurd hi (by omega)⟩, ⟨fun f hf => ⟨5, by omega, by omega, (s1 2 0 f (by omega)).trans (t2 f hf)⟩, fun f hf => ?_, fun i hi => absurd hi (by omega), fun i _ _ => w30 i⟩, fun i hi => ?_, ⟨(s1 0 0 7 (by omega)).trans t07, w20 2 (by omega), ?_, fun i hi => absurd hi (by omega), Or.inl ((s1 0 0 8 (by omega)).trans t08), fun i _ hi => ⟨(w i hi).2.2, w43 i, w44 i⟩⟩, fun q hq => ⟨0, by omega, (s1 4 q 1 (by omega)).trans (t4 q hq).1, w34 q, fun j hj => absurd hj (by omega)⟩, ?_, ?_, ?_⟩
  · rw [(w f hf).1, s1 2 0 f (by omega), t2 f hf]
  · rw [(w i hi).2.1, s1 3 0 i (by omega), t3 i hi]
    exact ⟨rfl, Or.inl rfl, fun _ => rfl⟩
  · rw [w19, s1 0 0 8 (by omega), t08]
  · rw [w20 15 (by omega), s1 0 0 9 (by omega), t09]
  · rw [w20 16 (by omega), s1 0 0 10 (by omega), t010]
  · rw [w20 17 (by omega), s1 4 0 2 (by omega), s1 4 1 2 (by omega), (t4 0 (by decide)).2, (t4 1 (by decide)).2]; rfl
