/-- what an operation on the reports of the pier i leaves as it was -/
def FarV (i : Nat) (V V' : jV) : Prop := ∀ k a b, (¬ a = i ∨ ¬ (11 ≤ k ∧ k ≤ 14)) → ¬ k = 2 → V' k a b = V k a b
def FarY (i : Nat) (W W' : jV) : Prop := (∀ k i' j, 31 ≤ k → k ≤ 33 → ¬ i' = i → j < 6 → W' k 0 (6 * i' + j) = W k 0 (6 * i' + j)) ∧ (∀ i', ¬ i' = i → W' 30 0 i' = W 30 0 i') ∧ ∀ k b, ¬ (29 ≤ k ∧ k ≤ 33) → W' k 0 b = W k 0 b
theorem FarV_refl (i : Nat) (V : jV) : FarV i V V := fun _ _ _ _ _ => rfl
theorem FarY_refl (i : Nat) (W : jV) : FarY i W W := ⟨fun _ _ _ _ _ _ _ => rfl, fun _ _ => rfl, fun _ _ _ => rfl⟩
theorem FarV_trans {i : Nat} {V V' V'' : jV} (h : FarV i V V') (h' : FarV i V' V'') : FarV i V V'' := fun k a b q r => (h' k a b q r).trans (h k a b q r)
theorem FarY_trans {i : Nat} {W W' W'' : jV} (h : FarY i W W') (h' : FarY i W' W'') : FarY i W W'' :=
  ⟨fun k i' j a b q r => (h'.1 k i' j a b q r).trans (h.1 k i' j a b q r), fun i' q => (h'.2.1 i' q).trans (h.2.1 i' q), fun k b q => (h'.2.2 k b q).trans (h.2.2 k b q)⟩
theorem QR_far {i i' c : Nat} {V W V' W' : jV} (h : QR i' V W c) (hn : ¬ i' = i) (hV : FarV i V V') (hW : FarY i W W') (ht : ∀ f, f < 6 → W' 29 0 f = V' 2 0 f) : QR i' V' W' c := by
  obtain ⟨h1, h2, h3, h4, h5, h6⟩ := h
  refine ⟨(hV 11 i' 3 (Or.inl hn) (by decide)).trans h1, (hW.2.1 i' hn).trans h2, h3, fun j hj => ?_, ht, fun j hj => ?_⟩
  · rw [hW.1 31 i' j (by decide) (by decide) hn (by omega), hW.1 32 i' j (by decide) (by decide) hn (by omega), hW.1 33 i' j (by decide) (by decide) hn (by omega), hV 12 i' j (Or.inl hn) (by decide), hV 13 i' j (Or.inl hn) (by decide), hV 14 i' j (Or.inl hn) (by decide)]
    exact h4 j hj
  · rw [hV 12 i' j (Or.inl hn) (by decide)]; exact h6 j hj
/-- the reports of one pier anew -/
theorem IB_upd {n i c : Nat} {V W V' W' : jV} (h : IB n V W) (hi : i < n) (q1 : QR i V' W' c) (q2 : RB V' i c) (q3 : TB V') (hV : FarV i V V') (hW : FarY i W W') : IB n V' W' := by
  refine ⟨q3, q1.2.2.2.2.1, fun i' hi' => ?_, fun i' h1 h2 => ?_⟩
  · by_cases e : i' = i
    · subst e; exact ⟨c, q1, q2⟩
    · obtain ⟨c', r1, r2⟩ := h.2.2.1 i' hi'
      exact ⟨c', QR_far r1 e hV hW q1.2.2.2.2.1, RB_congr r2 (fun k j z => hV k i' j (Or.inl e) (by omega))⟩
  · rw [hW.2.1 i' (by omega)]; exact h.2.2.2 i' h1 h2
theorem FarV_rem {V : jV} {i g : Nat} : FarV i V (remV V i g) := fun k a b q _ => rem_other (by omega)
theorem FarY_rem {W : jV} {i g c : Nat} (h : W 30 0 i = nI c) (h6 : c ≤ 6) : FarY i W (remY W i g) := by
  have e : tn (W 30 0 i) = c := by rw [h]; exact tn_nI (by omega)
  refine ⟨fun k i' j h1 h2 hn hj => ?_, fun i' hn => ?_, fun k b hk => ?_⟩
  · unfold remY shY up; rw [e]
    rw [if_neg (by omega), if_neg (by omega)]
  · unfold remY shY up; rw [if_neg (by omega), if_neg (by omega)]
  · exact rem_o (by omega) (by omega) (by omega) (by omega)
theorem RB_rem {V : jV} {i g c : Nat} (hV : V 11 i 3 = nI c) (h6 : c ≤ 6) (hg : g < c) (h : RB V i c) : RB (remV V i g) i (c - 1) := by
  obtain ⟨h1, h2⟩ := h
  refine ⟨fun j hj => ?_, fun j k hj hk => ?_⟩
  · rw [remV_row hV h6 (by omega) hj, remV_row hV h6 (by omega) hj]
    split
    · exact h1 (j + 1) (by omega)
    · exact h1 j (by omega)
  · rw [remV_row hV h6 (Or.inl rfl) (by omega), remV_row hV h6 (Or.inl rfl) hk]
    split <;> split
    · exact h2 (j + 1) (k + 1) (by omega) (by omega)
    · omega
    · exact h2 j (k + 1) (by omega) (by omega)
    · exact h2 j k hj (by omega)
theorem TB_rem {V : jV} {i g : Nat} (h : TB V) : TB (remV V i g) := fun f hf => by rw [rem_other (by omega)]; exact h f hf
