theorem jrv_ad {ad ad' : jAd} {r : Option (Nat × Nat)} (h : ∀ k i, r = some (k, i) → ad' k i = ad k i) : jrv ad' r = jrv ad r := by
  cases r with
  | none => rfl
  | some q => show Value.ref (ad' q.1 q.2) = Value.ref (ad q.1 q.2); rw [h q.1 q.2 rfl]
theorem jcell_ad {ca : Nat → ClassId} {ad ad' : jAd} {M : jM} {k i : Nat} (h : ∀ j k2 i2, M.2.2.2 k i j = some (k2, i2) → ad' k2 i2 = ad k2 i2) : jcell ca ad' M k i = jcell ca ad M k i := by
  have h1 : ∀ c j, jfv ad' M c k i j = jfv ad M c k i j := fun c j => by
    unfold jfv; split
    · exact jrv_ad (fun k2 i2 q => h j k2 i2 q)
    · rfl
  have h2 : (fun j => (M.2.2.2 k i j).map (fun q => ad' q.1 q.2)) = (fun j => (M.2.2.2 k i j).map (fun q => ad q.1 q.2)) := by
    funext j
    cases e : M.2.2.2 k i j with
    | none => rfl
    | some q => show some (ad' q.1 q.2) = some (ad q.1 q.2); rw [h j q.1 q.2 e]
  unfold jcell
  rw [h2]
  simp only [h1]
/-- other addresses for what is not alive -/
theorem jRep_ad {D : va_G} {ca : Nat → ClassId} {q0 : Nat} {ad ad' : jAd} {z n : Nat} {V : jV} {H : Heap} (h : jRep D ca q0 ad (jS z n V) H) (ha : ∀ k i, LV n k i = true → ad' k i = ad k i) : jRep D ca q0 ad' (jS z n V) H := by
  refine ⟨h.1, fun k i hl => ?_, fun k i k' i' hl hl' he => h.2.2 k i k' i' hl hl' (by rw [← ha k i hl, ← ha k' i' hl']; exact he)⟩
  rw [ha k i hl, jcell_ad (ad := ad) (ad' := ad') (fun j k2 i2 q => ha k2 i2 (rf_live hl q))]
  exact h.2.1 k i hl
theorem jRep_Rf {D : va_G} {ca : Nat → ClassId} {q0 : Nat} {ad : jAd} {z : Nat} {Lv Lv' : jLv} {V : jV} {Rf Rf' : jR} {H : Heap} (h : jRep D ca q0 ad (z, Lv, V, Rf) H) (hL : ∀ k i, Lv' k i = Lv k i) (hR : ∀ k i j, Lv' k i = true → Rf' k i j = Rf k i j) : jRep D ca q0 ad (z, Lv', V, Rf') H :=
  jRep_congr h rfl hL (fun k i hl => jcell_congr (fun _ => rfl) (fun j => hR k i j (by rw [hL]; exact hl)))
/-- alive after a pier more -/
theorem lv_more (n : Nat) (k i : Nat) : LV (n + 1) k i = l1 (upL (LV n) 10 n) n k i := by
  unfold l1 l2 l0 l3 upL
  unfold LV
  by_cases e : i = n
  · subst e
    split <;> simp_all
  · have h : i < n + 1 ↔ i < n := by omega
    split <;> simp [e, h]
theorem rf_more (n : Nat) (k i j : Nat) (hl : LV (n + 1) k i = true) : RF (n + 1) k i j = upR (r1 (clR (RF n) 10 n) n) 1 0 n (some (10, n)) k i j := by
  by_cases e1 : k = 1
  · subst e1
    have e0 : i = 0 := of_decide_eq_true hl
    subst e0
    unfold r1 r2 r0 r3 upR clR
    show (if j < n + 1 then some (10, j) else none) = _
    by_cases e : j = n
    · subst e; simp
    · have h : j < n + 1 ↔ j < n := by omega
      simp [e, h, RF]
  · have hk : ∀ n, k ≠ 1 → RF n k i j = RF 0 k i j := fun n h => by
      unfold RF; split <;> first | rfl | exact absurd rfl h
    unfold upR
    rw [if_neg (fun q => e1 q.1), hk (n + 1) e1]
    unfold r1 r2 r0 r3 upR clR
    dsimp only
    rw [hk n e1]
    by_cases e : i = n
    · subst e
      unfold RF
      split
      · simp
      · simp
      · simp
      · split <;> simp_all
      · split <;> simp_all
      · split <;> simp_all
      · split <;> simp_all
      · simp
      · simp_all
    · simp [e]
