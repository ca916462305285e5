/-- what the list of a pier's reports keeps -/
def RBL (l : List (Int32 × Int32 × Int32)) : Prop := (∀ r ∈ l, (∃ f, f < 6 ∧ r.1 = nI f) ∧ (-60 ≤ r.2.1.toInt ∧ r.2.1.toInt ≤ 60) ∧ ∃ g, g ≤ 9 ∧ r.2.2 = nI g) ∧ l.Pairwise (fun x y => ¬ x.1 = y.1)
theorem rwL_mem {a b d : Nat → Int32} {r : Int32 × Int32 × Int32} : ∀ c, r ∈ rwL a b d c ↔ ∃ j, j < c ∧ r = (a j, b j, d j)
  | 0 => ⟨fun h => absurd h List.not_mem_nil, fun ⟨_, h, _⟩ => absurd h (by omega)⟩
  | c + 1 => by
    rw [rwL, List.mem_append, rwL_mem c, List.mem_singleton]
    constructor
    · rintro (⟨j, h1, h2⟩ | h)
      · exact ⟨j, by omega, h2⟩
      · exact ⟨c, by omega, h⟩
    · rintro ⟨j, h1, h2⟩
      by_cases e : j = c
      · subst e; exact Or.inr h2
      · exact Or.inl ⟨j, by omega, h2⟩
theorem rwL_pair {a b d : Nat → Int32} : ∀ c, (rwL a b d c).Pairwise (fun x y => ¬ x.1 = y.1) ↔ ∀ j k, j < k → k < c → ¬ a j = a k
  | 0 => ⟨fun _ _ _ _ h => absurd h (by omega), fun _ => List.Pairwise.nil⟩
  | c + 1 => by
    rw [rwL, List.pairwise_append, rwL_pair c]
    constructor
    · rintro ⟨h1, _, h3⟩ j k hj hk
      by_cases e : k = c
      · subst e
        exact h3 (a j, b j, d j) ((rwL_mem k).mpr ⟨j, hj, rfl⟩) (a k, b k, d k) (List.mem_singleton.mpr rfl)
      · exact h1 j k hj (by omega)
    · intro h
      refine ⟨fun j k hj hk => h j k hj (by omega), List.pairwise_singleton _ _, fun x hx y hy => ?_⟩
      obtain ⟨j, hj, e⟩ := (rwL_mem c).mp hx
      rw [List.mem_singleton] at hy
      rw [e, hy]
      exact h j c hj (by omega)
theorem RBL_of {i c : Nat} {V W : jV} (h : QR i V W c) (h2 : RB V i c) : RBL (rowV V i c) := by
  refine ⟨fun r hr => ?_, (rwL_pair c).mpr h2.2⟩
  obtain ⟨j, hj, e⟩ := (rwL_mem c).mp hr
  rw [e]
  exact ⟨h.2.2.2.2.2 j hj, h2.1 j hj⟩
theorem RB_of {i c : Nat} {V : jV} (h : RBL (rowV V i c)) : RB V i c ∧ ∀ j, j < c → ∃ f, f < 6 ∧ V 12 i j = nI f := by
  refine ⟨⟨fun j hj => ?_, (rwL_pair c).mp h.2⟩, fun j hj => ?_⟩
  · exact (h.1 _ ((rwL_mem c).mpr ⟨j, hj, rfl⟩)).2
  · exact (h.1 _ ((rwL_mem c).mpr ⟨j, hj, rfl⟩)).1
theorem RBL_agF {u : Nat} (hu : u ≤ 1000) {l : List (Int32 × Int32 × Int32)} (h : RBL l) : RBL (agF (nI u) l) := by
  refine ⟨fun r hr => ?_, ?_⟩
  · unfold agF at hr
    rw [List.mem_filter] at hr
    obtain ⟨h1, h2⟩ := hr
    obtain ⟨s, hs, e⟩ := List.mem_map.mp h1
    obtain ⟨k1, k2, g, g1, g2⟩ := h.1 s hs
    have h3 : r.2.2 < 10 := of_decide_eq_true h2
    rw [← e] at h3 ⊢
    have e2 : s.2.2 + nI u = nI (g + u) := jx_add g2 rfl
    have h4 : g + u < 10 := (nlt (b := 10) (y := (10 : Int32)) (by omega) (by decide) e2 rfl).mp h3
    exact ⟨k1, k2, g + u, by omega, e2⟩
  · unfold agF
    exact List.Pairwise.filter _ (List.pairwise_map.mpr h.2)
/-- growing older on the class's side: the list -/
theorem grw_all {i u c : Nat} {V : jV} (hV : V 11 i 3 = nI c) (h6 : c ≤ 6) : ∃ c', c' ≤ 6 ∧ grwV i (nI u) c V 11 i 3 = nI c' ∧ rowV (grwV i (nI u) c V) i c' = agF (nI u) (rowV V i c) := by
  obtain ⟨c', h1, h2, h3⟩ := grw_list (d := nI u) c c V (Nat.le_refl c) h6 hV
  refine ⟨c', h1, h2, ?_⟩
  rw [h3, Nat.sub_self]
  exact List.append_nil _
theorem pdR_all {i c : Nat} {U : jV} (hU : U 30 0 i = nI c) (h6 : c ≤ 6) : ∃ c', c' ≤ 6 ∧ pdR i c U 30 0 i = nI c' ∧ rowY (pdR i c U) i c' = agG (rowY U i c) := by
  obtain ⟨c', h1, h2, h3⟩ := pdR_list c c U (Nat.le_refl c) h6 hU
  refine ⟨c', h1, h2, ?_⟩
  rw [h3, Nat.sub_self]
  exact List.append_nil _
