def sft (a : Nat → Int32) (j : Nat) : Nat → Int32 := fun k => a (j + k)
theorem rwL_app {a b d : Nat → Int32} (j : Nat) : ∀ u, rwL a b d (j + u) = rwL a b d j ++ rwL (sft a j) (sft b j) (sft d j) u
  | 0 => by rw [rwL, Nat.add_zero, List.append_nil]
  | u + 1 => by
    rw [← Nat.add_assoc, rwL, rwL_app j u, rwL, ← List.append_assoc]; rfl
theorem rwL_cons {a b d : Nat → Int32} : ∀ u, rwL a b d (u + 1) = (a 0, b 0, d 0) :: rwL (sft a 1) (sft b 1) (sft d 1) u := by
  intro u
  rw [Nat.add_comm, rwL_app 1 u]; rfl
/-- older by d days, those of less than 10 days kept -/
def agF (d : Int32) (l : List (Int32 × Int32 × Int32)) : List (Int32 × Int32 × Int32) := (l.map (fun r => (r.1, r.2.1, r.2.2 + d))).filter (fun r => decide (r.2.2 < 10))
theorem agF_app {d : Int32} {l l' : List (Int32 × Int32 × Int32)} : agF d (l ++ l') = agF d l ++ agF d l' := by unfold agF; rw [List.map_append, List.filter_append]
def rowV (V : jV) (i c : Nat) : List (Int32 × Int32 × Int32) := rwL (fun j => V 12 i j) (fun j => V 13 i j) (fun j => V 14 i j) c
def rowS (V : jV) (i j u : Nat) : List (Int32 × Int32 × Int32) := rwL (fun k => V 12 i (j + k)) (fun k => V 13 i (j + k)) (fun k => V 14 i (j + k)) u
theorem remV_row {V : jV} {i g c k j : Nat} (hV : V 11 i 3 = nI c) (h6 : c ≤ 6) (hk : k = 12 ∨ k = 13 ∨ k = 14) (hj : j < c - 1) : remV V i g k i j = if g ≤ j then V k i (j + 1) else V k i j := by
  unfold remV
  rw [hV, tn_nI (by omega)]
  unfold up
  rw [if_neg (by omega)]
  unfold shV
  by_cases z : g ≤ j
  · rw [if_pos z, if_pos ⟨hk, rfl, z, hj⟩]
  · rw [if_neg z, if_neg (fun q => z q.2.2.1)]
theorem grw_list {i : Nat} {d : Int32} : ∀ (j c : Nat) (V : jV), j ≤ c → c ≤ 6 → V 11 i 3 = nI c →
    ∃ c', c' ≤ 6 ∧ grwV i d j V 11 i 3 = nI c' ∧ rowV (grwV i d j V) i c' = agF d (rowV V i j) ++ rowS V i j (c - j)
  | 0, c, V, _, h6, hV => ⟨c, h6, hV, by
      show rowV V i c = rowS V i 0 c
      exact rwL_congr c (fun k _ => by simp only [Nat.zero_add]; exact ⟨trivial, trivial, trivial⟩)⟩
  | j + 1, c, V, hj, h6, hV => by
    have hs : rowV V i (j + 1) = rowV V i j ++ [(V 12 i j, V 13 i j, V 14 i j)] := rfl
    rw [hs, agF_app, grwV]
    obtain ⟨V1, hV1⟩ : ∃ V1, V1 = up V 14 i j (V 14 i j + d) := ⟨_, rfl⟩
    rw [← hV1]
    have e1 : V1 11 i 3 = nI c := by rw [hV1]; exact hV
    have e14 : ∀ k, V1 14 i k = if k = j then V 14 i j + d else V 14 i k := by
      intro k; rw [hV1]; unfold up
      by_cases z : k = j
      · rw [if_pos ⟨rfl, rfl, z⟩, if_pos z]
      · rw [if_neg (fun q => z q.2.2), if_neg z]
    have e12 : ∀ k, V1 12 i k = V 12 i k := fun k => by rw [hV1]; rfl
    have e13 : ∀ k, V1 13 i k = V 13 i k := fun k => by rw [hV1]; rfl
    by_cases z : V 14 i j + d < 10
    · rw [if_pos z]
      obtain ⟨c', q1, q2, q3⟩ := grw_list (d := d) j c V1 (by omega) h6 e1
      refine ⟨c', q1, q2, ?_⟩
      have l1 : rowV V1 i j = rowV V i j := rwL_congr j (fun k hk => ⟨e12 k, e13 k, by rw [e14, if_neg (by omega)]⟩)
      have l2 : rowS V1 i j (c - j) = (V 12 i j, V 13 i j, V 14 i j + d) :: rowS V i (j + 1) (c - (j + 1)) := by
        rw [show c - j = (c - (j + 1)) + 1 by omega]
        unfold rowS
        rw [rwL_cons]
        congr 1
        · simp only [Nat.add_zero, e12, e13, e14, if_true]
        · exact rwL_congr _ (fun k _ => by
            unfold sft
            dsimp only
            rw [show j + (1 + k) = j + 1 + k by omega, e12, e13, e14, if_neg (by omega)]
            exact ⟨rfl, rfl, rfl⟩)
      rw [q3, l1, l2]
      have l3 : agF d [(V 12 i j, V 13 i j, V 14 i j)] = [(V 12 i j, V 13 i j, V 14 i j + d)] := by
        unfold agF; simp [z]
      rw [l3, List.append_assoc]; rfl
    · rw [if_neg z]
      have e2 : remV V1 i j 11 i 3 = nI (c - 1) := by
        unfold remV up
        rw [if_pos ⟨rfl, rfl, rfl⟩, e1]
        exact pk_sub (b := 1) (by omega)
      obtain ⟨c', q1, q2, q3⟩ := grw_list (d := d) j (c - 1) (remV V1 i j) (by omega) (by omega) e2
      refine ⟨c', q1, q2, ?_⟩
      have l1 : rowV (remV V1 i j) i j = rowV V i j := rwL_congr j (fun k hk => by
        rw [remV_row e1 h6 (by decide) (by omega), remV_row e1 h6 (by decide) (by omega), remV_row e1 h6 (by decide) (by omega), if_neg (by omega), if_neg (by omega), if_neg (by omega), e12, e13, e14, if_neg (by omega)]
        exact ⟨rfl, rfl, rfl⟩)
      have l2 : rowS (remV V1 i j) i j (c - 1 - j) = rowS V i (j + 1) (c - (j + 1)) := by
        rw [show c - 1 - j = c - (j + 1) by omega]
        exact rwL_congr _ (fun k hk => by
          rw [remV_row e1 h6 (by decide) (by omega), remV_row e1 h6 (by decide) (by omega), remV_row e1 h6 (by decide) (by omega), if_pos (by omega), if_pos (by omega), if_pos (by omega), e12, e13, e14, if_neg (by omega), show j + k + 1 = j + 1 + k by omega]
          exact ⟨rfl, rfl, rfl⟩)
      have l3 : agF d [(V 12 i j, V 13 i j, V 14 i j)] = [] := by
        unfold agF; simp [z]
      rw [q3, l1, l2, l3, List.append_nil]
