/-- a report dropped: the same reports are left -/
theorem rem_rel {V W : jV} {i g c : Nat} (hV : V 11 i 3 = nI c) (hW : W 30 0 i = nI c) (h6 : c ≤ 6) (hg : g < c)
    (hr : ∀ j, j < c → W 31 0 (6 * i + j) = V 12 i j ∧ W 32 0 (6 * i + j) = V 13 i j ∧ W 33 0 (6 * i + j) = V 14 i j) :
    remY W i g 30 0 i = nI (c - 1) ∧ remV V i g 11 i 3 = nI (c - 1) ∧
    ∀ j, j < c - 1 → remY W i g 31 0 (6 * i + j) = remV V i g 12 i j ∧ remY W i g 32 0 (6 * i + j) = remV V i g 13 i j ∧ remY W i g 33 0 (6 * i + j) = remV V i g 14 i j := by
  refine ⟨shc hW (by omega), ?_, fun j hj => ?_⟩
  · unfold remV up
    rw [if_pos ⟨rfl, rfl, rfl⟩, hV]
    exact pk_sub (b := 1) (by omega)
  · have eV : ∀ k, (k = 12 ∨ k = 13 ∨ k = 14) → remV V i g k i j = if g ≤ j then V k i (j + 1) else V k i j := by
      intro k hk
      unfold remV
      rw [hV, tn_nI (by omega)]
      unfold up
      rw [if_neg (by omega)]
      unfold shV
      by_cases z : g ≤ j
      · rw [if_pos z, if_pos ⟨hk, rfl, z, hj⟩]
      · rw [if_neg z, if_neg (fun q => z q.2.2.1)]
    have eW : ∀ k, (k = 31 ∨ k = 32 ∨ k = 33) → remY W i g k 0 (6 * i + j) = if g ≤ j then W k 0 (6 * i + (j + 1)) else W k 0 (6 * i + j) := by
      intro k hk
      unfold remY
      rw [hW, tn_nI (by omega)]
      unfold shY
      by_cases z : g ≤ j
      · rw [if_pos z, if_pos ⟨hk, rfl, by omega, by omega⟩]; rfl
      · rw [if_neg z, if_neg (by omega)]
        unfold up; rw [if_neg (by omega)]
    rw [eV 12 (by decide), eV 13 (by decide), eV 14 (by decide), eW 31 (by decide), eW 32 (by decide), eW 33 (by decide)]
    by_cases z : g ≤ j
    · simp only [if_pos z]; exact hr (j + 1) (by omega)
    · simp only [if_neg z]; exact hr j (by omega)
theorem um_rel {V W : jV} {i : Nat} : ∀ c, (∀ j, j < c → W 48 0 (4 * i + j) = V 16 i j) → umY W i c = umk V i c
  | 0, _ => rfl
  | c + 1, h => by rw [umY, umk, um_rel c (fun j hj => h j (by omega)), h c (by omega)]
theorem sp_rel {V W : jV} {i c : Nat} (h : ∀ j, j < c → W 48 0 (4 * i + j) = V 16 i j) : fidx (spY W i) c = fidx (spo V i) c :=
  fidx_congr (fun j hj => by unfold spY spo; rw [h j hj])
/-- the last readable line blotted, on both boards -/
theorem bl_rel {V W : jV} {i c0 : Nat} (h : ∀ j, j < c0 → W 48 0 (4 * i + j) = V 16 i j) : ∀ c, c ≤ c0 → ∀ j, j < c0 → blY W i c 48 0 (4 * i + j) = blt V i c 16 i j
  | 0, _, j, hj => h j hj
  | c + 1, hc, j, hj => by
    rw [blY, blt, h c (by omega)]
    by_cases z : V 16 i c = 1
    · rw [if_pos z, if_pos z]
      unfold up
      by_cases e : j = c
      · subst e; rw [if_pos ⟨rfl, rfl, rfl⟩, if_pos ⟨rfl, rfl, rfl⟩]
      · rw [if_neg (by omega), if_neg (by omega)]; exact h j hj
    · rw [if_neg z, if_neg z]; exact bl_rel h c (by omega) j hj
