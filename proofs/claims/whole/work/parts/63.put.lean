/-- a report put at the place q, on both sides -/
theorem put_rel {V W : jV} {i f q c : Nat} {mt : Int32} (h : QR i V W c) (hf : f < 6) (hq : q < c) : QR i (putV V i c f mt q) (rpW W i f mt q) c := by
  obtain ⟨h1, h2, h3, h4, h5, h6⟩ := h
  have e : putV V i c f mt q = up (up (up V 12 i q (nI f)) 13 i q mt) 14 i q 0 := by unfold putV; rw [if_pos hq]
  rw [e]
  refine ⟨h1, h2, h3, fun j hj => ?_, h5, fun j hj => ?_⟩
  · unfold rpW up
    by_cases z : j = q
    · subst z
      refine ⟨?_, ?_, ?_⟩ <;> simp
    · have z2 : ¬ 6 * i + j = 6 * i + q := by omega
      simpa [z, z2] using h4 j hj
  · by_cases z : j = q
    · subst z; exact ⟨f, hf, by simp [up]⟩
    · obtain ⟨f', e1, e2⟩ := h6 j hj
      exact ⟨f', e1, by simpa [up, z] using e2⟩
