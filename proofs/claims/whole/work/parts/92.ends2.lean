theorem pier_end {D : va_G} {ca : Nat → ClassId} {q0 : Nat} {ad : jAd} {z n : Nat} {V : jV} {H : Heap} (h : jRep D ca q0 ad (z, l1 (upL (LV n) 10 n) n, V, upR (r1 (clR (RF n) 10 n) n) 1 0 n (some (10, n))) H) : jRep D ca q0 ad (jS z (n + 1) V) H :=
  jRep_Rf h (lv_more n) (rf_more n)
def L00 : jLv := fun _ _ => false
def R00 : jR := fun _ _ _ => none
theorem lv_init (k i : Nat) : LV 0 k i = upL (l6 (upL (l5 (upL L00 0 0)) 20 0)) 60 0 k i := by
  unfold l6 l5 l4 l3 upL L00
  unfold LV
  by_cases e : i = 0
  · subst e
    split <;> simp_all
  · by_cases e1 : i = 1
    · subst e1; split <;> simp_all
    · by_cases e6 : i = 6
      · subst e6; split <;> simp_all
      · split <;> simp_all <;> omega
theorem upR_ne {R : jR} {a b c' k i j : Nat} {x : Option (Nat × Nat)} (h : ¬ k = a) : upR R a b c' x k i j = R k i j := by unfold upR; rw [if_neg (fun q => h q.1)]
theorem clR_none {R : jR} {a b k i j : Nat} (h : R k i j = none) : clR R a b k i j = none := by
  unfold clR; split
  · rfl
  · exact h
set_option maxHeartbeats 400000 in
theorem rf_init (k i j : Nat) (hl : LV 0 k i = true) : RF 0 k i j = clR (r6 (clR (r5 (clR R00 0 0)) 20 0)) 60 0 k i j := by
  unfold RF
  split
  · have e : i = 0 := of_decide_eq_true hl
    subst e
    split <;> simp_all [r6, r5, r4, r3, upR, clR, R00]
  · simp [r6, r5, r4, r3, upR, clR, R00]
  · have e : i < 2 := of_decide_eq_true hl
    rcases (show i = 0 ∨ i = 1 by omega) with e | e
    · subst e
      split <;> simp_all [r6, r5, r4, r3, upR, clR, R00]
    · subst e
      split <;> simp_all [r6, r5, r4, r3, upR, clR, R00]
  · have e : i < 0 ∨ i = 6 := of_decide_eq_true hl
    have e6 : i = 6 := by omega
    subst e6
    split <;> simp_all [r6, r5, r4, r3, upR, clR, R00]
  · exact absurd (of_decide_eq_true hl : i < 0) (by omega)
  · exact absurd (of_decide_eq_true hl : i < 0) (by omega)
  · exact absurd (of_decide_eq_true hl : i < 0) (by omega)
  · have e : i = 0 := of_decide_eq_true hl
    subst e
    split <;> simp_all [r6, upR, clR]
  · rename_i h0 h1 h4 h6 h10 h11 h15 h20
    have h0' : ¬ k = 0 := h0
    have h4' : ¬ k = 4 := h4
    have h6' : ¬ k = 6 := h6
    have h20' : ¬ k = 20 := h20
    symm
    unfold r6 r5 r4 r3
    repeat (first | refine clR_none ?_ | (refine (upR_ne (by omega)).trans ?_))
    rfl
theorem init_end {D : va_G} {ca : Nat → ClassId} {q0 : Nat} {ad : jAd} {z : Nat} {V : jV} {H : Heap} (h : jRep D ca q0 ad (z, upL (l6 (upL (l5 (upL L00 0 0)) 20 0)) 60 0, V, clR (r6 (clR (r5 (clR R00 0 0)) 20 0)) 60 0) H) : jRep D ca q0 ad (jS z 0 V) H :=
  jRep_Rf h lv_init rf_init
