/-- c places below n, no value twice: c is at most n -/
theorem pigeon : ∀ (n c : Nat) (g : Nat → Nat), (∀ j, j < c → g j < n) → (∀ j k, j < k → k < c → ¬ g j = g k) → c ≤ n
  | 0, c, g, h, _ => by
    rcases Nat.eq_zero_or_pos c with q | q
    · omega
    · exact absurd (h 0 q) (by omega)
  | n + 1, c, g, h, hd => by
    by_cases e : ∃ j, j < c ∧ g j = n
    · obtain ⟨j0, h0, e0⟩ := e
      have z := pigeon n (c - 1) (fun j => if j < j0 then g j else g (j + 1)) (fun j hj => ?_) (fun j k hj hk => ?_)
      · omega
      · show (if j < j0 then g j else g (j + 1)) < n
        split
        · rename_i q
          have a := h j (by omega); have b := hd j j0 q h0; omega
        · rename_i q
          have a := h (j + 1) (by omega); have b := hd j0 (j + 1) (by omega) (by omega); omega
      · show ¬ (if j < j0 then g j else g (j + 1)) = (if k < j0 then g k else g (k + 1))
        split <;> split
        · exact hd j k hj (by omega)
        · exact hd j (k + 1) (by omega) (by omega)
        · omega
        · exact hd (j + 1) (k + 1) (by omega) (by omega)
    · have z := pigeon n c g (fun j hj => by
        have a := h j hj
        have b : ¬ g j = n := fun w => e ⟨j, hj, w⟩
        omega) hd
      omega
theorem put_new {V W : jV} {i f c : Nat} {mt : Int32} (h : QR i V W c) (hf : f < 6) (hc : c < 6) : QR i (putV V i c f mt c) (rpW (up W 30 0 i (W 30 0 i + 1)) i f mt c) (c + 1) := by
  obtain ⟨h1, h2, h3, h4, h5, h6⟩ := h
  have e : putV V i c f mt c = up (up (up (up V 11 i 3 (V 11 i 3 + 1)) 12 i c (nI f)) 13 i c mt) 14 i c 0 := by unfold putV; rw [if_neg (Nat.lt_irrefl c)]
  rw [e]
  refine ⟨?_, ?_, by omega, fun j hj => ?_, fun f hf => ?_, fun j hj => ?_⟩
  · have : up (up (up (up V 11 i 3 (V 11 i 3 + 1)) 12 i c (nI f)) 13 i c mt) 14 i c 0 11 i 3 = V 11 i 3 + 1 := by unfold up; simp
    rw [this]; exact jx_add (b := 1) h1 rfl
  · have : rpW (up W 30 0 i (W 30 0 i + 1)) i f mt c 30 0 i = W 30 0 i + 1 := by unfold rpW up; simp
    rw [this]; exact jx_add (b := 1) h2 rfl
  · unfold rpW up
    by_cases z : j = c
    · subst z
      refine ⟨?_, ?_, ?_⟩ <;> simp
    · have z2 : ¬ 6 * i + j = 6 * i + c := by omega
      simpa [z, z2] using h4 j (by omega)
  · have a : rpW (up W 30 0 i (W 30 0 i + 1)) i f mt c 29 0 f = W 29 0 f := rfl
    exact h5 f hf
  · by_cases z : j = c
    · subst z; exact ⟨_, hf, by simp [up]⟩
    · obtain ⟨f', e1, e2⟩ := h6 j (by omega)
      exact ⟨f', e1, by simpa [up, z] using e2⟩
theorem FarV_put {V : jV} {i f q c : Nat} {mt : Int32} : FarV i V (putV V i c f mt q) := by
  intro k a b h1 h2
  unfold putV
  split <;> (unfold up; grind)
theorem FarY_rpW {W : jV} {i f q : Nat} {mt : Int32} (hq : q < 6) : FarY i W (rpW W i f mt q) := by
  refine ⟨fun k i' j h1 h2 h3 h4 => ?_, fun i' h => ?_, fun k b h => ?_⟩
  · unfold rpW up; rw [if_neg (by omega), if_neg (by omega), if_neg (by omega)]
  · unfold rpW up; rw [if_neg (by omega), if_neg (by omega), if_neg (by omega)]
  · unfold rpW up; rw [if_neg (by omega), if_neg (by omega), if_neg (by omega)]
theorem FarY_30 {W : jV} {i : Nat} {x : Int32} : FarY i W (up W 30 0 i x) := by
  refine ⟨fun k i' j h1 h2 h3 h4 => ?_, fun i' h => ?_, fun k b h => ?_⟩ <;> (unfold up; rw [if_neg (by omega)])
theorem TB_far {i : Nat} {V V' : jV} (h : TB V) (hV : ∀ f, V' 2 0 f = V 2 0 f) : TB V' := fun f hf => by rw [hV]; exact h f hf
theorem put_2 {V : jV} {i f q c b : Nat} {mt : Int32} : putV V i c f mt q 2 0 b = V 2 0 b := by
  unfold putV; split <;> rfl
theorem RB_put {V : jV} {i f q c : Nat} {mt : Int32} (h : RB V i c) (hm : -60 ≤ mt ∧ mt ≤ 60) (hq : q < c) (hf : V 12 i q = nI f) : RB (putV V i c f mt q) i c := by
  have e : putV V i c f mt q = up (up (up V 12 i q (nI f)) 13 i q mt) 14 i q 0 := by unfold putV; rw [if_pos hq]
  have m1 : -60 ≤ mt.toInt ∧ mt.toInt ≤ 60 := ⟨Int32.le_iff_toInt_le.mp hm.1, Int32.le_iff_toInt_le.mp hm.2⟩
  have e12 : ∀ j, putV V i c f mt q 12 i j = V 12 i j := by
    intro j; rw [e]
    by_cases z : j = q
    · subst z; rw [hf]; simp [up]
    · simp [up, z]
  refine ⟨fun j hj => ?_, fun j k hj hk => ?_⟩
  · rw [e]
    by_cases z : j = q
    · subst z
      refine ⟨by simpa [up] using m1, 0, by decide, by simp [up]; rfl⟩
    · simpa [up, z] using h.1 j hj
  · rw [e12, e12]; exact h.2 j k hj hk
theorem RB_new {V : jV} {i f c : Nat} {mt : Int32} (h : RB V i c) (hm : -60 ≤ mt ∧ mt ≤ 60) (hf : ∀ j, j < c → ¬ V 12 i j = nI f) : RB (putV V i c f mt c) i (c + 1) := by
  have e : putV V i c f mt c = up (up (up (up V 11 i 3 (V 11 i 3 + 1)) 12 i c (nI f)) 13 i c mt) 14 i c 0 := by unfold putV; rw [if_neg (Nat.lt_irrefl c)]
  have m1 : -60 ≤ mt.toInt ∧ mt.toInt ≤ 60 := ⟨Int32.le_iff_toInt_le.mp hm.1, Int32.le_iff_toInt_le.mp hm.2⟩
  rw [e]
  refine ⟨fun j hj => ?_, fun j k hj hk => ?_⟩
  · by_cases z : j = c
    · subst z
      refine ⟨by simpa [up] using m1, 0, by decide, by simp [up]; rfl⟩
    · simpa [up, z] using h.1 j (by omega)
  · have zj : ¬ j = c := by omega
    by_cases z : k = c
    · subst z
      have := hf j hj
      simpa [up, zj] using this
    · have := h.2 j k hj (by omega)
      simpa [up, zj, z] using this
/-- who has no report leaves a place free -/
theorem put_room {V W : jV} {i f c : Nat} (h : QR i V W c) (hb : RB V i c) (hf : f < 6) (hn : ∀ j, j < c → ¬ V 12 i j = nI f) : c < 6 := by
  have z := pigeon 6 (c + 1) (fun j => if j < c then tn (V 12 i j) else f) (fun j hj => ?_) (fun j k hj hk => ?_)
  · omega
  · show (if j < c then tn (V 12 i j) else f) < 6
    split
    · rename_i q; exact (tn_of (b := 6) (by decide) (h.2.2.2.2.2 j q)).2
    · exact hf
  · show ¬ (if j < c then tn (V 12 i j) else f) = (if k < c then tn (V 12 i k) else f)
    rw [if_pos (show j < c by omega)]
    have a := (tn_of (b := 6) (by decide) (h.2.2.2.2.2 j (by omega))).1
    split
    · rename_i q
      have b := (tn_of (b := 6) (by decide) (h.2.2.2.2.2 k q)).1
      intro w
      exact hb.2 j k hj q (by rw [a, b, w])
    · intro w
      exact hn j (by omega) (by rw [a, w])
/-- a report: of who has one -/
theorem Inv_put {T n i f q : Nat} {V W : jV} {mt : Int32} (h : Inv T n V W) (hi : i < n) (hf : f < 6) (hm : -60 ≤ mt ∧ mt ≤ 60) (hq : fidx (fun j => decide (V 12 i j = nI f)) (tn (V 11 i 3)) = q) (hqc : q < tn (V 11 i 3)) :
    QR i (putV V i (tn (V 11 i 3)) f mt q) (rpW W i f mt q) (tn (V 11 i 3)) ∧ Inv T n (putV V i (tn (V 11 i 3)) f mt q) (rpW W i f mt q) := by
  obtain ⟨e, r, b⟩ := IB_cnt h.2.1 hi
  have hat := fidx_at (P := fun j => decide (V 12 i j = nI f)) (by rw [hq]; exact hqc)
  rw [hq] at hat
  have hat2 : V 12 i q = nI f := of_decide_eq_true hat
  have p := put_rel (mt := mt) r hf hqc
  have hV := FarV_put (V := V) (i := i) (f := f) (q := q) (c := tn (V 11 i 3)) (mt := mt)
  have hW := FarY_rpW (W := W) (i := i) (f := f) (q := q) (mt := mt) (by have := r.2.2.1; omega)
  exact ⟨p, Inv_far h hV hW (IB_upd h.2.1 hi p (RB_put b hm hqc hat2) (TB_far (i := i) h.2.1.1 (fun _ => put_2)) hV hW)⟩
/-- and of who has none -/
theorem Inv_new {T n i f q : Nat} {V W : jV} {mt : Int32} (h : Inv T n V W) (hi : i < n) (hf : f < 6) (hm : -60 ≤ mt ∧ mt ≤ 60) (hq : fidx (fun j => decide (V 12 i j = nI f)) (tn (V 11 i 3)) = q) (hqc : ¬ q < tn (V 11 i 3)) :
    q = tn (V 11 i 3) ∧ q < 6 ∧ QR i (putV V i (tn (V 11 i 3)) f mt q) (rpW (up W 30 0 i (W 30 0 i + 1)) i f mt q) (tn (V 11 i 3) + 1) ∧ Inv T n (putV V i (tn (V 11 i 3)) f mt q) (rpW (up W 30 0 i (W 30 0 i + 1)) i f mt q) := by
  obtain ⟨e, r, b⟩ := IB_cnt h.2.1 hi
  have hq2 : q = tn (V 11 i 3) := by
    have := fidx_le (fun j => decide (V 12 i j = nI f)) (tn (V 11 i 3)); omega
  have hno : ∀ j, j < tn (V 11 i 3) → ¬ V 12 i j = nI f := fun j hj => of_decide_eq_false (fidx_lt (P := fun j => decide (V 12 i j = nI f)) (by rw [hq, hq2]; exact hj))
  have h6 := put_room r b hf hno
  rw [hq2]
  have p := put_new (mt := mt) r hf h6
  have hV := FarV_put (V := V) (i := i) (f := f) (q := tn (V 11 i 3)) (c := tn (V 11 i 3)) (mt := mt)
  have hW := FarY_trans (FarY_30 (W := W) (i := i) (x := W 30 0 i + 1)) (FarY_rpW (i := i) (f := f) (q := tn (V 11 i 3)) (mt := mt) h6)
  exact ⟨rfl, h6, p, Inv_far h hV hW (IB_upd h.2.1 hi p (RB_new b hm hno) (TB_far (i := i) h.2.1.1 (fun _ => put_2)) hV hW)⟩
