theorem dp_q {W : jV} {q q' t : Nat} (ht : W 34 0 q = nI t) (h12 : t ≤ 12) (hn : ¬ q' = q) : ∀ g, g ≤ t → (∀ j, j < 12 → dpY W q g 35 0 (12 * q' + j) = W 35 0 (12 * q' + j)) ∧ dpY W q g 34 0 q' = W 34 0 q'
  | 0, _ => ⟨fun _ _ => rfl, rfl⟩
  | g + 1, hg => by
    obtain ⟨i1, i2⟩ := dp_q (q' := q') ht h12 hn g (by omega)
    have hc := dp_cnt ht g (by omega)
    refine ⟨fun j hj => ?_, ?_⟩
    · rw [dpY, (do_q (U := up (dpY W q g) 20 0 17 (dpY W q g 20 0 17 + dpY W q g 35 0 (12 * q))) (j := j) (u := t - g) hc (by omega) hn hj).1]
      exact i1 j hj
    · rw [dpY, (do_q (U := up (dpY W q g) 20 0 17 (dpY W q g 20 0 17 + dpY W q g 35 0 (12 * q))) (j := 0) (u := t - g) hc (by omega) hn (by decide)).2]
      exact i2
theorem tkY_q {W : jV} {q q' t g : Nat} {x : Int32} (ht : W 34 0 q = nI t) (h12 : t ≤ 12) (hg : g < t) (hn : ¬ q' = q) : (∀ j, j < 12 → tkY W q x g 35 0 (12 * q' + j) = W 35 0 (12 * q' + j)) ∧ tkY W q x g 34 0 q' = W 34 0 q' := by
  obtain ⟨i1, i2⟩ := dp_q (q' := q') ht h12 hn g (by omega)
  have u1 : ∀ j, j < 12 → tkU W q x g 35 0 (12 * q' + j) = W 35 0 (12 * q' + j) := fun j hj => by
    unfold tkU
    have : up (dpY W q g) 35 0 (12 * q) (dpY W q g 35 0 (12 * q) - x) 35 0 (12 * q' + j) = dpY W q g 35 0 (12 * q' + j) := by unfold up; rw [if_neg (by omega)]
    rw [this]; exact i1 j hj
  have u2 : tkU W q x g 34 0 q' = W 34 0 q' := i2
  have uc := tkU_cnt (x := x) ht hg
  unfold tkY
  split
  · refine ⟨fun j hj => ?_, ?_⟩
    · rw [(do_q (j := j) uc (by omega) hn hj).1]; exact u1 j hj
    · rw [(do_q (j := 0) uc (by omega) hn (by decide)).2]; exact u2
  · exact ⟨u1, u2⟩
/-- the tins after paint has been taken -/
theorem IE_take {V W : jV} {q t g : Nat} {x : Int32} (h : IE V W) (hq : q < 2) (r : TR q t V W) (hg : g < t) :
    (∀ q', q' < 2 → ∃ t', TR q' t' (tkV V q x g t) (tkY W q x g)) ∧ tkY W q x g 20 0 17 = tkV V q x g t 4 0 2 + tkV V q x g t 4 1 2 := by
  obtain ⟨h1, h2, h3, h4⟩ := h
  obtain ⟨r1, r2, r3, r4⟩ := r
  obtain ⟨k1, k2, k3⟩ := tk_rel (x := x) r2 r3 r1 r4 hg
  have hT : (if V 5 q g - x = 0 then g + 1 else g) ≤ t := by split <;> omega
  obtain ⟨v1, _, v3⟩ := tkV_at (V := V) (q := q) (g := g) (x := x) r2 hT
  refine ⟨fun q' hq' => ?_, ?_⟩
  · by_cases e : q' = q
    · subst e
      refine ⟨t - (if V 5 q' g - x = 0 then g + 1 else g), by omega, v1, k1.trans v1, fun j hj => k2 j ?_⟩
      rw [v1, tn_nI (by omega)]; exact hj
    · obtain ⟨t', s1, s2, s3, s4⟩ := h1 q' hq'
      obtain ⟨y1, y2⟩ := tkY_q (x := x) (q' := q') r3 r1 hg e
      refine ⟨t', s1, (tk_other (Or.inl e)).trans s2, y2.trans s3, fun j hj => ?_⟩
      rw [y1 j (by omega), tk_other (Or.inl e)]; exact s4 j hj
  · rw [k3, h4]
    rcases (show q = 0 ∨ q = 1 by omega) with e | e
    · subst e
      rw [v3, tk_other (a := 1) (Or.inl (by decide))]
      rw [Int32.add_assoc, Int32.add_assoc, Int32.add_comm (V 4 1 2)]
    · subst e
      rw [v3, tk_other (a := 0) (Or.inl (by decide))]
      rw [Int32.add_assoc]
