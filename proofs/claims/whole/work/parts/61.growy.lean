/-- a day older, those that are not 10 days old kept -/
def agG (l : List (Int32 × Int32 × Int32)) : List (Int32 × Int32 × Int32) := (l.map (fun r => (r.1, r.2.1, r.2.2 + 1))).filter (fun r => !decide (r.2.2 = 10))
theorem agG_app {l l' : List (Int32 × Int32 × Int32)} : agG (l ++ l') = agG l ++ agG l' := by unfold agG; rw [List.map_append, List.filter_append]
def rowY (W : jV) (i c : Nat) : List (Int32 × Int32 × Int32) := rwL (fun j => W 31 0 (6 * i + j)) (fun j => W 32 0 (6 * i + j)) (fun j => W 33 0 (6 * i + j)) c
def rowT (W : jV) (i j u : Nat) : List (Int32 × Int32 × Int32) := rwL (fun k => W 31 0 (6 * i + (j + k))) (fun k => W 32 0 (6 * i + (j + k))) (fun k => W 33 0 (6 * i + (j + k))) u
theorem remY_row {W : jV} {i g c k j : Nat} (hW : W 30 0 i = nI c) (h6 : c ≤ 6) (hk : k = 31 ∨ k = 32 ∨ k = 33) (hj : j < c - 1) : remY W i g k 0 (6 * i + j) = if g ≤ j then W k 0 (6 * i + (j + 1)) else W k 0 (6 * i + j) := by
  unfold remY
  rw [hW, tn_nI (by omega)]
  unfold shY
  by_cases z : g ≤ j
  · rw [if_pos z, if_pos ⟨hk, rfl, by omega, by omega⟩]; rfl
  · rw [if_neg z, if_neg (by omega)]
    unfold up; rw [if_neg (by omega)]
theorem pdR_list {i : Nat} : ∀ (j c : Nat) (V : jV), j ≤ c → c ≤ 6 → V 30 0 i = nI c →
    ∃ c', c' ≤ 6 ∧ pdR i j V 30 0 i = nI c' ∧ rowY (pdR i j V) i c' = agG (rowY V i j) ++ rowT V i j (c - j)
  | 0, c, V, _, h6, hV => ⟨c, h6, hV, by
      show rowY V i c = rowT V i 0 c
      exact rwL_congr c (fun k _ => by simp only [Nat.zero_add]; exact ⟨trivial, trivial, trivial⟩)⟩
  | j + 1, c, V, hj, h6, hV => by
    have hs : rowY V i (j + 1) = rowY V i j ++ [(V 31 0 (6 * i + j), V 32 0 (6 * i + j), V 33 0 (6 * i + j))] := rfl
    rw [hs, agG_app, pdR]
    obtain ⟨V1, hV1⟩ : ∃ V1, V1 = agS i j V := ⟨_, rfl⟩
    rw [← hV1]
    have e1 : V1 30 0 i = nI c := by rw [hV1]; exact hV
    have e14 : ∀ k, V1 33 0 (6 * i + k) = if k = j then V 33 0 (6 * i + j) + 1 else V 33 0 (6 * i + k) := by
      intro k; rw [hV1]; unfold agS up
      by_cases z : k = j
      · rw [if_pos ⟨rfl, rfl, by omega⟩, if_pos z]
      · rw [if_neg (by omega), if_neg z]
    have e12 : ∀ k, V1 31 0 (6 * i + k) = V 31 0 (6 * i + k) := fun k => by rw [hV1]; rfl
    have e13 : ∀ k, V1 32 0 (6 * i + k) = V 32 0 (6 * i + k) := fun k => by rw [hV1]; rfl
    by_cases z : V 33 0 (6 * i + j) + 1 = 10
    · rw [if_pos z]
      have e2 : remY V1 i j 30 0 i = nI (c - 1) := shc e1 (by omega)
      obtain ⟨c', q1, q2, q3⟩ := pdR_list j (c - 1) (remY V1 i j) (by omega) (by omega) e2
      refine ⟨c', q1, q2, ?_⟩
      have l1 : rowY (remY V1 i j) i j = rowY V i j := rwL_congr j (fun k hk => by
        rw [remY_row e1 h6 (by decide) (by omega), remY_row e1 h6 (by decide) (by omega), remY_row e1 h6 (by decide) (by omega), if_neg (by omega), if_neg (by omega), if_neg (by omega), e12, e13, e14, if_neg (by omega)]
        exact ⟨rfl, rfl, rfl⟩)
      have l2 : rowT (remY V1 i j) i j (c - 1 - j) = rowT V i (j + 1) (c - (j + 1)) := by
        rw [show c - 1 - j = c - (j + 1) by omega]
        exact rwL_congr _ (fun k hk => by
          rw [remY_row e1 h6 (by decide) (by omega), remY_row e1 h6 (by decide) (by omega), remY_row e1 h6 (by decide) (by omega), if_pos (by omega), if_pos (by omega), if_pos (by omega), e12, e13, e14, if_neg (by omega), show j + k + 1 = j + 1 + k by omega]
          exact ⟨rfl, rfl, rfl⟩)
      have l3 : agG [(V 31 0 (6 * i + j), V 32 0 (6 * i + j), V 33 0 (6 * i + j))] = [] := by
        unfold agG; simp [z]
      rw [q3, l1, l2, l3, List.append_nil]
    · rw [if_neg z]
      obtain ⟨c', q1, q2, q3⟩ := pdR_list j c V1 (by omega) h6 e1
      refine ⟨c', q1, q2, ?_⟩
      have l1 : rowY V1 i j = rowY V i j := rwL_congr j (fun k hk => ⟨e12 k, e13 k, by rw [e14, if_neg (by omega)]⟩)
      have l2 : rowT V1 i j (c - j) = (V 31 0 (6 * i + j), V 32 0 (6 * i + j), V 33 0 (6 * i + j) + 1) :: rowT V i (j + 1) (c - (j + 1)) := by
        rw [show c - j = (c - (j + 1)) + 1 by omega]
        unfold rowT
        rw [rwL_cons]
        congr 1
        · simp only [Nat.add_zero, e12, e13, e14, if_true]
        · exact rwL_congr _ (fun k _ => by
            unfold sft
            dsimp only
            rw [show j + (1 + k) = j + 1 + k by omega, e12, e13, e14, if_neg (by omega)]
            exact ⟨rfl, rfl, rfl⟩)
      rw [q3, l1, l2]
      have l3 : agG [(V 31 0 (6 * i + j), V 32 0 (6 * i + j), V 33 0 (6 * i + j))] = [(V 31 0 (6 * i + j), V 32 0 (6 * i + j), V 33 0 (6 * i + j) + 1)] := by
        unfold agG; simp [z]
      rw [l3, List.append_assoc]; rfl
