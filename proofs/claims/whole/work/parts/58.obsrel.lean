/-- the reports of the pier i and the trusts, c reports, alike in both memories -/
def QR (i : Nat) (V W : jV) (c : Nat) : Prop := V 11 i 3 = nI c ∧ W 30 0 i = nI c ∧ c ≤ 6 ∧ (∀ j, j < c → W 31 0 (6 * i + j) = V 12 i j ∧ W 32 0 (6 * i + j) = V 13 i j ∧ W 33 0 (6 * i + j) = V 14 i j) ∧ (∀ f, f < 6 → W 29 0 f = V 2 0 f) ∧ ∀ j, j < c → ∃ f, f < 6 ∧ V 12 i j = nI f
theorem QR_rem {i g c : Nat} {V W : jV} (h : QR i V W c) (hg : g < c) : QR i (remV V i g) (remY W i g) (c - 1) := by
  obtain ⟨h1, h2, h3, h4, h5, h6⟩ := h
  obtain ⟨r1, r2, r3⟩ := rem_rel h1 h2 h3 hg h4
  refine ⟨r2, r1, by omega, r3, fun f hf => ?_, fun j hj => ?_⟩
  · rw [rem_o (by decide) (by decide) (by decide) (by decide)]
    have e : remV V i g 2 0 f = V 2 0 f := by unfold remV up shV; rw [if_neg (by omega), if_neg (by omega)]
    rw [e]; exact h5 f hf
  · have hY : YR W i c := ⟨h2, h3, fun j hj => by rw [(h4 j hj).1]; exact h6 j hj⟩
    rw [← (r3 j hj).1]
    exact (YR_rem hY hg).2.2 j hj
theorem QR_cmp1 {i j c : Nat} {V W : jV} {mm : Int32} (h : QR i V W c) (hj : j < c) : QR i (cmpV1 V i j mm) (obY1 W i j mm) c := by
  obtain ⟨h1, h2, h3, h4, h5, h6⟩ := h
  obtain ⟨q1, q2, _⟩ := h4 j hj
  have hf := (tn_of (b := 6) (by decide) (h6 j hj)).2
  refine ⟨h1, h2, h3, h4, fun f hf' => ?_, h6⟩
  unfold obY1 cmpV1
  rw [jdY_jdg, q1, q2, h5 _ hf]
  unfold up
  by_cases e : f = tn (V 12 i j)
  · rw [if_pos ⟨rfl, rfl, e⟩, if_pos ⟨rfl, rfl, e⟩]
  · rw [if_neg (fun z => e z.2.2), if_neg (fun z => e z.2.2)]; exact h5 f hf'
/-- an observation: as many reports dropped, and the same left -/
theorem cmp_rel {i : Nat} {mm : Int32} : ∀ (j c : Nat) (V W : jV) (x : Int32), j ≤ c → QR i V W c → (obY i mm j W x).2 = (cmpV i mm j V x).2 ∧ ∃ c', QR i (cmpV i mm j V x).1 (obY i mm j W x).1 c'
  | 0, c, _, _, _, _, h => ⟨rfl, c, h⟩
  | j + 1, c, V, W, x, hj, h => by
    have h1 := QR_cmp1 (mm := mm) h (show j < c by omega)
    have e : W 32 0 (6 * i + j) = V 13 i j := (h.2.2.2.1 j (by omega)).2.1
    rw [obY, cmpV, e]
    by_cases z : 30 < absI (V 13 i j - mm)
    · rw [if_pos z, if_pos z]
      exact cmp_rel j (c - 1) _ _ _ (by omega) (QR_rem h1 (by omega))
    · rw [if_neg z, if_neg z]
      exact cmp_rel j c _ _ _ (by omega) h1
