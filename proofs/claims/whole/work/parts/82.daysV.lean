def rlV (U : jV) (i : Nat) : List (Int32 × Int32 × Int32) := rowV U i (tn (U 11 i 3))
def GV (U : jV) (i : Nat) : Prop := U 11 i 3 = nI (tn (U 11 i 3)) ∧ tn (U 11 i 3) ≤ 6
def DV (d : Int32) (i : Nat) (U U' : jV) : Prop := GV U' i ∧ rlV U' i = agF d (rlV U i) ∧ ∀ j, j < 4 → U' 16 i j = if j < tn (U 6 i 3) ∧ U 16 i j = 1 ∧ ¬ U 0 0 7 - U 17 i j < 7 then 3 else U 16 i j
def SV (i : Nat) (U U' : jV) : Prop := ∀ k j, (11 ≤ k ∧ k ≤ 14 ∨ k = 16) → U' k i j = U k i j
def OV (U U' : jV) : Prop := ∀ k i j, ¬ (11 ≤ k ∧ k ≤ 14) → ¬ k = 16 → U' k i j = U k i j
theorem rlV_SV {i : Nat} {U U' : jV} (h : SV i U U') : rlV U' i = rlV U i := by
  unfold rlV
  rw [h 11 3 (by omega)]
  exact rwL_congr _ (fun j hj => ⟨h 12 j (by omega), h 13 j (by omega), h 14 j (by omega)⟩)
theorem GV_SV {i : Nat} {U U' : jV} (h : SV i U U') (h6 : GV U i) : GV U' i := by unfold GV; rw [h 11 3 (by omega)]; exact h6
theorem pdS_day {i u : Nat} {U : jV} (h : GV U i) : DV (nI u) i U (pdS U (nI u) i) ∧ (∀ i', ¬ i' = i → SV i' U (pdS U (nI u) i)) ∧ OV U (pdS U (nI u) i) := by
  obtain ⟨c', r1, r2, r3⟩ := grw_all (u := u) h.1 h.2
  have ho : ∀ k a b, (¬ a = i ∨ ¬ (11 ≤ k ∧ k ≤ 14)) → grwV i (nI u) (tn (U 11 i 3)) U k a b = U k a b := fun k a b z => grw_other (by omega) _ _
  unfold pdS
  generalize grwV i (nI u) (tn (U 11 i 3)) U = X at *
  have hF : ∀ k a b, (¬ k = 16 ∨ ¬ a = i) → fadV X i (U 0 0 7) (tn (U 6 i 3)) k a b = X k a b := fun k a b z => by unfold fadV; rw [if_neg (by omega)]
  refine ⟨⟨?_, ?_, fun j hj => ?_⟩, fun i' hn k j z => ?_, fun k a b h1 h2 => ?_⟩
  · have e : fadV X i (U 0 0 7) (tn (U 6 i 3)) 11 i 3 = nI c' := (hF 11 i 3 (by omega)).trans r2
    unfold GV
    rw [e, tn_nI (by omega)]
    exact ⟨rfl, r1⟩
  · have e : fadV X i (U 0 0 7) (tn (U 6 i 3)) 11 i 3 = nI c' := (hF 11 i 3 (by omega)).trans r2
    unfold rlV
    rw [e, tn_nI (by omega), ← r3]
    exact rwL_congr _ (fun j hj => ⟨hF 12 _ _ (by omega), hF 13 _ _ (by omega), hF 14 _ _ (by omega)⟩)
  · unfold fadV
    rw [ho 16 i j (by omega), ho 17 i j (by omega)]
    by_cases z : j < tn (U 6 i 3) ∧ U 16 i j = 1 ∧ ¬ U 0 0 7 - U 17 i j < 7
    · rw [if_pos z, if_pos ⟨rfl, rfl, z⟩]
    · rw [if_neg z, if_neg (fun q => z q.2.2)]
  · rw [hF k i' j (by omega)]; exact ho k i' j (by omega)
  · rw [hF k a b (by omega)]; exact ho k a b (by omega)
theorem pdV_day {n u : Nat} {U : jV} (h : ∀ i, i < n → GV U i) : ∀ j, j ≤ n → (∀ i, i < j → DV (nI u) i U (pdV (nI u) j U)) ∧ (∀ i, j ≤ i → SV i U (pdV (nI u) j U)) ∧ OV U (pdV (nI u) j U)
  | 0, _ => ⟨fun _ q => absurd q (by omega), fun _ _ _ _ _ => rfl, fun _ _ _ _ _ => rfl⟩
  | j + 1, hj => by
    obtain ⟨i1, i2, i3⟩ := pdV_day h j (by omega)
    rw [pdV]
    have s := i2 j (Nat.le_refl j)
    obtain ⟨p1, p2, p3⟩ := pdS_day (u := u) (U := pdV (nI u) j U) (i := j) (GV_SV s (h j (by omega)))
    refine ⟨fun i hi => ?_, fun i hi k b z => ?_, fun k a b h1 h2 => (p3 k a b h1 h2).trans (i3 k a b h1 h2)⟩
    · by_cases e : i = j
      · subst e
        obtain ⟨q1, q2, q3⟩ := p1
        refine ⟨q1, by rw [q2, rlV_SV s], fun b hb => ?_⟩
        rw [q3 b hb, i3 6 i 3 (by omega) (by omega), s 16 b (by omega), i3 0 0 7 (by omega) (by omega), i3 17 i b (by omega) (by omega)]
      · obtain ⟨q1, q2, q3⟩ := i1 i (by omega)
        have s2 := p2 i e
        exact ⟨GV_SV s2 q1, by rw [rlV_SV s2, q2], fun b hb => by rw [s2 16 b (by omega)]; exact q3 b hb⟩
    · exact (p2 i (by omega) k b z).trans (i2 i (by omega) k b z)
/-- a state after u days, at once and day by day -/
theorem fade_both {T v u : Nat} {s x : Int32} (hs : s = 1 → x = nI v ∧ v ≤ T ∧ T < v + 7) (hT : T < 1000000) (hu : u ≤ 1000) : fdX T x u s = if s = 1 ∧ ¬ nI (T + u) - x < 7 then 3 else s := by
  by_cases z : s = 1
  · obtain ⟨e, h1, h2⟩ := hs z
    rw [z, e, fdX_I, fdI_one h1 h2 hT u hu]
    have q := fad_one (v := v) (t := T) (u := u) h1 hT hu
    by_cases w : v + 7 ≤ T + u
    · rw [if_pos w, if_pos ⟨rfl, fun k => (q.mp k) w⟩]
    · rw [if_neg w, if_neg (fun k => k.2 (q.mpr w))]
  · rw [fdX_other z, if_neg (fun q => z q.1)]
