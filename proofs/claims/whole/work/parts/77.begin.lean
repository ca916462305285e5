/-- a job begun: the first order's pier p, its day d -/
theorem Inv_beg {T n p d : Nat} {V W : jV} (h : Inv T n V W) (hp : p < n) (h3 : V 3 0 p = nI d) (hd : d ≤ 99999) :
    Inv T n (up (up (begV V p (tn (V 11 p 3)) (nI d)) 3 0 p (-1)) 0 0 8 (nI p)) (begY W p (tn (V 11 p 3))) := by
  obtain ⟨hA, hB, hC, hD, hE⟩ := h
  have hn := hA.1
  have e39 : W 39 0 p = nI d := (hC p (by omega)).1.trans h3
  obtain ⟨w, w1, w4, _, f6, t29, hrow⟩ := tab_inv p hA hB hp hd
  unfold begV begY begT
  rw [e39]
  have fF : ∀ k i b, (¬ i = p ∨ ¬ (6 ≤ k ∧ k ≤ 9)) → filV V p p (tn (V 11 p 3)) (nI d) k i b = V k i b := fun k i b z => fil_other (by omega)
  have fT : ∀ k b, ¬ k = 51 → ¬ k = 52 → ¬ (k = 20 ∧ b = 29) → tabY W p (tn (V 11 p 3)) (nI d) k 0 b = W k 0 b := fun k b z1 z2 z3 => tab_o z1 z2 z3
  generalize filV V p p (tn (V 11 p 3)) (nI d) = F at *
  generalize tabY W p (tn (V 11 p 3)) (nI d) = Z at *
  have tw : tn (Z 20 0 29) = w := by rw [t29, tn_nI (by omega)]
  rw [tw, t29]
  have gT : ∀ k b, ¬ (k = 42 ∧ b = p) → ¬ (k = 39 ∧ b = p) → ¬ (k = 43 ∧ b = p) → ¬ (k = 44 ∧ b = p) → bgT W Z p k 0 b = Z k 0 b := fun k b z1 z2 z3 z4 => by
    unfold bgT up; rw [if_neg (by omega), if_neg (by omega), if_neg (by omega), if_neg (by omega)]
  have g42 : bgT W Z p 42 0 p = nI d := by unfold bgT; rw [e39]; simp [up]
  have g39 : bgT W Z p 39 0 p = -1 := by simp [bgT, up]
  have g43 : bgT W Z p 43 0 p = nI w := by unfold bgT; rw [t29]; simp [up]
  have g44 : bgT W Z p 44 0 p = 0 := by simp [bgT, up]
  generalize bgT W Z p = U at *
  -- the class's memory at the end
  have hX : ∀ k i b, ¬ (k = 0 ∧ i = 0 ∧ b = 8) → ¬ (k = 3 ∧ i = 0 ∧ b = p) → ¬ (k = 15 ∧ i = p ∧ (b = 3 ∨ b = 4)) → ¬ (k = 16 ∧ i = p) → up (up (up (up (stv F p 4) 15 p 3 (nI d)) 15 p 4 0) 3 0 p (-1)) 0 0 8 (nI p) k i b = F k i b := fun k i b z1 z2 z3 z4 => by
    unfold up stv; rw [if_neg (by omega), if_neg (by omega), if_neg (by omega), if_neg (by omega), if_neg (by omega)]
  have x8 : up (up (up (up (stv F p 4) 15 p 3 (nI d)) 15 p 4 0) 3 0 p (-1)) 0 0 8 (nI p) 0 0 8 = nI p := by simp [up]
  have x3 : up (up (up (up (stv F p 4) 15 p 3 (nI d)) 15 p 4 0) 3 0 p (-1)) 0 0 8 (nI p) 3 0 p = -1 := by simp [up]
  have x15 : up (up (up (up (stv F p 4) 15 p 3 (nI d)) 15 p 4 0) 3 0 p (-1)) 0 0 8 (nI p) 15 p 3 = nI d := by simp [up]
  have x154 : up (up (up (up (stv F p 4) 15 p 3 (nI d)) 15 p 4 0) 3 0 p (-1)) 0 0 8 (nI p) 15 p 4 = 0 := by simp [up]
  have x16 : ∀ j, j < 4 → up (up (up (up (stv F p 4) 15 p 3 (nI d)) 15 p 4 0) 3 0 p (-1)) 0 0 8 (nI p) 16 p j = 0 := fun j hj => by simp [up, stv, hj]
  have x16o : ∀ i b, ¬ i = p → up (up (up (up (stv F p 4) 15 p 3 (nI d)) 15 p 4 0) 3 0 p (-1)) 0 0 8 (nI p) 16 i b = F 16 i b := fun i b z => by simp [up, stv, z]
  generalize up (up (up (up (stv F p 4) 15 p 3 (nI d)) 15 p 4 0) 3 0 p (-1)) 0 0 8 (nI p) = X at *
  -- the Model's
  have hhi : W 25 0 p + rangeY W p (nI d) / 2 = W 25 0 p + rangeY W p (nI d) / 2 := rfl
  generalize W 25 0 p + rangeY W p (nI d) / 2 = hi at *
  generalize W 25 0 p - rangeY W p (nI d) / 2 = lo at *
  have hY : ∀ k b, ¬ (k = 20 ∧ (b = 19 ∨ b = 20)) → ¬ (45 ≤ k ∧ k ≤ 48 ∧ 4 * p ≤ b ∧ b < 4 * p + w) → up (up (bgR U p hi lo w) 20 0 19 (nI p)) 20 0 20 (nI w - 1) k 0 b = U k 0 b := fun k b z1 z2 => by
    unfold up bgR; rw [if_neg (by omega), if_neg (by omega), if_neg (by omega)]
  have y19 : up (up (bgR U p hi lo w) 20 0 19 (nI p)) 20 0 20 (nI w - 1) 20 0 19 = nI p := by simp [up]
  have y20 : up (up (bgR U p hi lo w) 20 0 19 (nI p)) 20 0 20 (nI w - 1) 20 0 20 = nI w - 1 := by simp [up]
  have yl : ∀ j, j < w → up (up (bgR U p hi lo w) 20 0 19 (nI p)) 20 0 20 (nI w - 1) 45 0 (4 * p + j) = U 52 0 j ∧ up (up (bgR U p hi lo w) 20 0 19 (nI p)) 20 0 20 (nI w - 1) 46 0 (4 * p + j) = U 51 0 j ∧ up (up (bgR U p hi lo w) 20 0 19 (nI p)) 20 0 20 (nI w - 1) 47 0 (4 * p + j) = (if U 52 0 j = 0 then hi else lo) ∧ up (up (bgR U p hi lo w) 20 0 19 (nI p)) 20 0 20 (nI w - 1) 48 0 (4 * p + j) = 0 := fun j hj => by
    have hj2 : 4 * p + j - 4 * p = j := by omega
    refine ⟨?_, ?_, ?_, ?_⟩ <;> simp [up, bgR, hj, hj2]
  generalize up (up (bgR U p hi lo w) 20 0 19 (nI p)) 20 0 20 (nI w - 1) = Y at *
  have hYW : ∀ k b, ¬ (k = 20 ∧ (b = 19 ∨ b = 20 ∨ b = 29)) → ¬ (45 ≤ k ∧ k ≤ 48 ∧ 4 * p ≤ b ∧ b < 4 * p + w) → ¬ (k = 39 ∧ b = p) → ¬ (42 ≤ k ∧ k ≤ 44 ∧ b = p) → k < 50 → Y k 0 b = W k 0 b := fun k b z1 z2 z3 z4 z5 => by
    rw [hY k b (by omega) z2, gT k b (by omega) (by omega) (by omega) (by omega), fT k b (by omega) (by omega) (by omega)]
  have hXV : ∀ k i b, ¬ (k = 0 ∧ b = 8) → ¬ (k = 3 ∧ b = p) → (¬ i = p ∨ ¬ (6 ≤ k ∧ k ≤ 9 ∨ k = 15 ∨ k = 16)) → X k i b = V k i b := fun k i b z1 z2 z3 => by
    by_cases e : k = 16
    · subst e
      rw [x16o i b (by omega), fF 16 i b (by omega)]
    · rw [hX k i b (by omega) (by omega) (by omega) (by omega), fF k i b (by omega)]
  have hb : BR T p w X Y := by
    refine ⟨w4, ?_, ?_, ?_, Or.inr ⟨d, hd, x15⟩, ?_, fun j hj => ?_⟩
    · rw [hX 6 p 3 (by omega) (by omega) (by omega) (by omega)]; exact f6
    · rw [hY 43 p (by omega) (by omega)]; exact g43
    · rw [hY 42 p (by omega) (by omega), x15]; exact g42
    · rw [hY 44 p (by omega) (by omega), x154]; exact g44
    · obtain ⟨q1, q2, q3, q4⟩ := hrow j hj
      obtain ⟨l1, l2, l3, l4⟩ := yl j hj
      have u51 : U 51 0 j = Z 51 0 j := gT 51 j (by omega) (by omega) (by omega) (by omega)
      have u52 : U 52 0 j = Z 52 0 j := gT 52 j (by omega) (by omega) (by omega) (by omega)
      refine ⟨?_, ?_, ?_, ?_, ?_, fun z => ?_⟩
      · rw [hX 9 p j (by omega) (by omega) (by omega) (by omega)]; exact q3
      · rw [l1, u52, q2, hX 9 p j (by omega) (by omega) (by omega) (by omega)]
      · rw [l2, u51, q1, hX 7 p j (by omega) (by omega) (by omega) (by omega)]
      · rw [l3, u52, hX 8 p j (by omega) (by omega) (by omega) (by omega), q4]
      · rw [l4, x16 j (by omega)]
      · rw [x16 j (by omega)] at z; exact absurd z (by decide)
  have F : FarB p V X W Y := by
    refine ⟨fun k i b z1 z2 z3 => hXV k i b (by omega) (by omega) (Or.inl z1), fun k i b z1 z2 z3 z4 => ?_, fun k i z1 z2 z3 => hYW k i (by omega) (by omega) (by omega) (by omega) (by omega)⟩
    exact hYW k _ (by omega) (by omega) (by omega) (by omega) (by omega)
  have hJ : JB n X Y := by
    refine Or.inr ⟨p, w - 1, w, hp, by omega, w4, x8, ?_, hb.2.1, fun k hk => ?_⟩
    · rw [y20]; exact jx_sub (b := 1) rfl rfl (by omega)
    · rw [x16 k (by omega)]; exact ⟨fun _ => by omega, fun _ => rfl⟩
  refine ⟨IA_congr hA (fun k i b z => hXV k i b (by omega) (by omega) (by omega)) (fun k b z => hYW k b (by omega) (by omega) (by omega) (by omega) (by omega)),
    IB_congr hB (fun k i b z => hXV k i b (by omega) (by omega) (by omega)) (fun k b z => hYW k b (by omega) (by omega) (by omega) (by omega) (by omega)), fun i hi => ?_,
    ID_board hD hn hp hb F (hXV 0 0 7 (by omega) (by omega) (by omega)) (hYW 20 2 (by omega) (by omega) (by omega) (by omega) (by omega)) (by rw [y19, x8]) hJ,
    IE_congr hE (fun k i b z => hXV k i b (by omega) (by omega) (by omega)) (fun k b z => hYW k b (by omega) (by omega) (by omega) (by omega) (by omega))⟩
  by_cases e : i = p
  · subst e
    rw [hY 39 i (by omega) (by omega), x3, g39]
    exact ⟨rfl, Or.inl rfl, fun _ => rfl⟩
  · rw [hYW 39 i (by omega) (by omega) (by omega) (by omega) (by omega), hXV 3 0 i (by omega) (by omega) (by omega)]
    exact hC i hi
