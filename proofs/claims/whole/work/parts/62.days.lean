def agI : Nat → List (Int32 × Int32 × Int32) → List (Int32 × Int32 × Int32)
  | 0, l => l
  | u + 1, l => agG (agI u l)
theorem agI_app : ∀ (u : Nat) (l l' : List (Int32 × Int32 × Int32)), agI u (l ++ l') = agI u l ++ agI u l'
  | 0, _, _ => rfl
  | u + 1, l, l' => by rw [agI, agI, agI, agI_app u, agG_app]
theorem agI_nil : ∀ u, agI u [] = []
  | 0 => rfl
  | u + 1 => by rw [agI, agI_nil u]; rfl
/-- one report, u days older day by day -/
theorem agI_one {x y : Int32} {a : Nat} (ha : a ≤ 9) : ∀ u, u ≤ 1000 → agI u [(x, y, nI a)] = if a + u < 10 then [(x, y, nI (a + u))] else []
  | 0, _ => by rw [agI, if_pos (by omega)]; rfl
  | u + 1, hu => by
    rw [agI, agI_one ha u (by omega)]
    by_cases h : a + u < 10
    · rw [if_pos h]
      have e : nI (a + u) + 1 = nI (a + (u + 1)) := nI_1 _
      have q : nI (a + (u + 1)) = 10 ↔ a + (u + 1) = 10 := neq (b := 10) (by omega) (by decide) rfl rfl
      unfold agG
      by_cases h2 : a + (u + 1) < 10
      · rw [if_pos h2]; simp [e, q]; omega
      · rw [if_neg h2]; simp [e, q]; omega
    · rw [if_neg h, if_neg (by omega)]; rfl
theorem agF_one {x y : Int32} {a u : Nat} (ha : a ≤ 9) (hu : u ≤ 1000) : agF (nI u) [(x, y, nI a)] = if a + u < 10 then [(x, y, nI (a + u))] else [] := by
  have e : nI a + nI u = nI (a + u) := jx_add rfl rfl
  have q : nI (a + u) < 10 ↔ a + u < 10 := nlt (b := 10) (by omega) (by decide) rfl rfl
  unfold agF
  by_cases h : a + u < 10
  · rw [if_pos h]; simp [e, q, h]
  · rw [if_neg h]; simp [e, q, h]
/-- u days at once are u days one by one -/
theorem ag_days {u : Nat} (hu : u ≤ 1000) : ∀ l : List (Int32 × Int32 × Int32), (∀ r ∈ l, ∃ a, a ≤ 9 ∧ r.2.2 = nI a) → agI u l = agF (nI u) l
  | [], _ => agI_nil u
  | r :: l, h => by
    obtain ⟨a, ha, e⟩ := h r (List.mem_cons_self ..)
    have hr : r = (r.1, r.2.1, nI a) := by rw [← e]
    rw [show r :: l = [r] ++ l from rfl, agI_app, agF_app, ag_days hu l (fun r' h' => h r' (List.mem_cons_of_mem _ h')), hr, agI_one ha u hu, agF_one ha hu]
