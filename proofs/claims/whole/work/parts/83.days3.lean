/-- days pass, on both sides alike -/
theorem Inv_days {T n u : Nat} {V W : jV} (h : Inv T n V W) (hT : T < 1000000) (hu : u ≤ 60) : Inv (T + u) n (pdV (nI u) n (up V 0 0 7 (V 0 0 7 + nI u))) (pdsY n W u) := by
  obtain ⟨hA, hB, hC, hD, hE⟩ := h
  have hn := hA.1
  have e7 : V 0 0 7 = nI T := hD.1
  rw [e7]
  have hU : ∀ k i b, ¬ (k = 0 ∧ i = 0 ∧ b = 7) → up V 0 0 7 (nI T + nI u) k i b = V k i b := fun k i b z => by unfold up; rw [if_neg z]
  have u7 : up V 0 0 7 (nI T + nI u) 0 0 7 = nI (T + u) := by
    have : up V 0 0 7 (nI T + nI u) 0 0 7 = nI T + nI u := by simp [up]
    rw [this]; exact jx_add rfl rfl
  generalize up V 0 0 7 (nI T + nI u) = U at *
  have gV : ∀ i, i < n → GV U i := fun i hi => by
    obtain ⟨q1, q2, _⟩ := IB_RI hB hi
    unfold GV; rw [hU 11 i 3 (by omega)]; exact ⟨q1, q2⟩
  have gY : ∀ i, i < n → GY W i := fun i hi => ⟨(IB_YR hB hi).1, (IB_YR hB hi).2.1⟩
  obtain ⟨a1, a2, a3⟩ := pdV_day (u := u) gV n (Nat.le_refl n)
  obtain ⟨b1, b2, b3, b4⟩ := pds_day gY (fun i hi => (ID_Ycnt hD hi).2.2) hD.2.1 u
  generalize pdV (nI u) n U = X at *
  generalize pdsY n W u = Y at *
  have fX : ∀ k i b, ¬ (11 ≤ k ∧ k ≤ 14) → ¬ k = 16 → ¬ (k = 0 ∧ b = 7) → X k i b = V k i b := fun k i b z1 z2 z3 => (a3 k i b z1 z2).trans (hU k i b (by omega))
  refine ⟨IA_congr hA (fun k i b z => fX k i b (by omega) (by omega) (by omega)) (fun k b z => b4 k b (by omega) (by omega) (by omega)), ⟨fun f hf => ?_, fun f hf => ?_, fun i hi => ?_, fun i h1 h2 => ?_⟩, IC_congr hC (fun i b => fX 3 i b (by omega) (by omega) (by omega)) (fun b => b4 39 b (by omega) (by omega) (by omega)), ⟨(a3 0 0 7 (by omega) (by omega)).trans u7, b3, ?_, fun i hi => ?_, ?_, fun i h1 h2 => ?_⟩,
    IE_congr hE (fun k i b z => fX k i b (by omega) (by omega) (by omega)) (fun k b z => b4 k b (by omega) (by omega) (by omega))⟩
  · rw [fX 2 0 f (by omega) (by omega) (by omega)]; exact hB.1 f hf
  · rw [b4 29 f (by omega) (by omega) (by omega), fX 2 0 f (by omega) (by omega) (by omega)]; exact hB.2.1 f hf
  · obtain ⟨c, q, r⟩ := hB.2.2.1 i hi
    have tc : tn (V 11 i 3) = c := by rw [q.1, tn_nI (by have := q.2.2.1; omega)]
    have tc2 : tn (W 30 0 i) = c := by rw [q.2.1, tn_nI (by have := q.2.2.1; omega)]
    obtain ⟨d1, d2, _⟩ := a1 i hi
    obtain ⟨d3, d4, _⟩ := b1 i hi
    have l1 : rlV U i = rowV V i c := by
      unfold rlV
      rw [hU 11 i 3 (by omega), tc]
      exact rwL_congr _ (fun j _ => ⟨hU 12 i j (by omega), hU 13 i j (by omega), hU 14 i j (by omega)⟩)
    have l2 : rlY W i = rowV V i c := by
      unfold rlY
      rw [tc2]
      exact rwL_congr _ (fun j hj => q.2.2.2.1 j hj)
    have rb := RBL_of q r
    have l3 : rlY Y i = rlV X i := by
      rw [d4, d2, l1, l2]
      exact ag_days (by omega) _ (fun r hr => (rb.1 r hr).2.2)
    have rb2 : RBL (rlV X i) := by rw [d2, l1]; exact RBL_agF (by omega) rb
    obtain ⟨c1, c2⟩ := rwL_inj l3
    obtain ⟨rb3, rb4⟩ := RB_of rb2
    refine ⟨tn (X 11 i 3), ⟨d1.1, by rw [← c1]; exact d3.1, d1.2, fun j hj => c2 j (by rw [c1]; exact hj), fun f hf => ?_, rb4⟩, rb3⟩
    rw [b4 29 f (by omega) (by omega) (by omega), fX 2 0 f (by omega) (by omega) (by omega)]; exact hB.2.1 f hf
  · rw [(b2 i h1).2.1]; exact hB.2.2.2 i h1 h2
  · rw [b4 20 19 (by omega) (by omega) (by omega), fX 0 0 8 (by omega) (by omega) (by omega)]; exact hD.2.2.1
  · obtain ⟨s1, s2, s3⟩ := ID_cnt hD hi
    have y43 : tn (W 43 0 i) = tn (V 6 i 3) := by rw [s3.2.2.1, tn_nI (by omega)]
    refine ⟨tn (V 6 i 3), s2, ?_, ?_, ?_, ?_, ?_, fun j hj => ?_⟩
    · rw [fX 6 i 3 (by omega) (by omega) (by omega)]; exact s1
    · rw [b4 43 i (by omega) (by omega) (by omega)]; exact s3.2.2.1
    · rw [b4 42 i (by omega) (by omega) (by omega), fX 15 i 3 (by omega) (by omega) (by omega)]; exact s3.2.2.2.1
    · rw [fX 15 i 3 (by omega) (by omega) (by omega)]; exact s3.2.2.2.2.1
    · rw [b4 44 i (by omega) (by omega) (by omega), fX 15 i 4 (by omega) (by omega) (by omega)]; exact s3.2.2.2.2.2.1
    · obtain ⟨l1, l2, l3, l4, l5, l6⟩ := s3.2.2.2.2.2.2 j hj
      have st := (a1 i hi).2.2 j (by omega)
      rw [hU 6 i 3 (by omega), hU 16 i j (by omega), hU 17 i j (by omega), u7] at st
      have stY := (b1 i hi).2.2 j (by omega)
      rw [y43, if_pos hj, l5] at stY
      have st2 : X 16 i j = if V 16 i j = 1 ∧ ¬ nI (T + u) - V 17 i j < 7 then 3 else V 16 i j := by
        rw [st]
        by_cases w : V 16 i j = 1 ∧ ¬ nI (T + u) - V 17 i j < 7
        · rw [if_pos w, if_pos ⟨hj, w⟩]
        · rw [if_neg w, if_neg (fun q => w q.2)]
      refine ⟨?_, ?_, ?_, ?_, ?_, fun z => ?_⟩
      · rw [fX 9 i j (by omega) (by omega) (by omega)]; exact l1
      · rw [b4 45 _ (by omega) (by omega) (by omega), fX 9 i j (by omega) (by omega) (by omega)]; exact l2
      · rw [b4 46 _ (by omega) (by omega) (by omega), fX 7 i j (by omega) (by omega) (by omega)]; exact l3
      · rw [b4 47 _ (by omega) (by omega) (by omega), fX 8 i j (by omega) (by omega) (by omega)]; exact l4
      · rw [stY, st2]
        by_cases w : V 16 i j = 1
        · obtain ⟨k1, v, k2, k3, k4⟩ := l6 w
          rw [k1]
          exact fade_both (fun _ => ⟨k4, k2, k3⟩) hT (by omega)
        · rw [fdX_other w, if_neg (fun q => w q.1)]
      · rw [st2] at z
        by_cases w : V 16 i j = 1 ∧ ¬ nI (T + u) - V 17 i j < 7
        · rw [if_pos w] at z; exact absurd z (by decide)
        · rw [if_neg w] at z
          obtain ⟨k1, v, k2, k3, k4⟩ := l6 z
          rw [b4 49 _ (by omega) (by omega) (by omega), fX 17 i j (by omega) (by omega) (by omega)]
          refine ⟨k1, v, by omega, ?_, k4⟩
          have w2 : nI (T + u) - V 17 i j < 7 := by
            rcases Classical.em (nI (T + u) - V 17 i j < 7) with q | q
            · exact q
            · exact absurd ⟨z, q⟩ w
          rw [k4] at w2
          have := (fad_one (v := v) (t := T) (u := u) k2 hT (by omega)).mp w2
          omega
  · rcases hD.2.2.2.2.1 with q | ⟨a, j, c, e1, e2, e3, e4, e5, e6, e7'⟩
    · exact Or.inl ((fX 0 0 8 (by omega) (by omega) (by omega)).trans q)
    · refine Or.inr ⟨a, j, c, e1, e2, e3, (fX 0 0 8 (by omega) (by omega) (by omega)).trans e4, (b4 20 20 (by omega) (by omega) (by omega)).trans e5, (fX 6 a 3 (by omega) (by omega) (by omega)).trans e6, fun k hk => ?_⟩
      refine Iff.trans ?_ (e7' k hk)
      rw [(a1 a e1).2.2 k (by omega), hU 16 a k (by omega)]
      split
      · rename_i w
        rw [w.2.1]
        exact ⟨fun z => absurd z (by decide), fun z => absurd z (by decide)⟩
      · exact Iff.rfl
  · rw [b4 42 i (by omega) (by omega) (by omega), b4 43 i (by omega) (by omega) (by omega), b4 44 i (by omega) (by omega) (by omega)]
    exact hD.2.2.2.2.2 i h1 h2
