/-- U shows what V shows, but for the class's own table, the Model's scratch rows, thrown, and out -/
def SM (V U : jV) : Prop := (∀ k i j, k < 20 → ¬ (6 ≤ k ∧ k ≤ 9 ∧ i = 6) → U k i j = V k i j) ∧ ∀ k j, 20 ≤ k → k < 50 → ¬ (k = 20 ∧ (j = 0 ∨ j = 29)) → U k 0 j = V k 0 j
theorem SM_refl (V : jV) : SM V V := ⟨fun _ _ _ _ _ => rfl, fun _ _ _ _ _ => rfl⟩
theorem SM_thr {V U : jV} {x : Int32} (h : SM V U) : SM V (thr U x) := ⟨fun k i j z1 z2 => (by unfold thr up; rw [if_neg (by omega)] : thr U x k i j = U k i j).trans (h.1 k i j z1 z2), fun k j z1 z2 z3 => (by unfold thr up; rw [if_neg (by omega)] : thr U x k 0 j = U k 0 j).trans (h.2 k j z1 z2 z3)⟩
theorem SM_out {V U : jV} {x : Int32} (h : SM V U) : SM V (up U 60 0 0 x) := ⟨fun k i j z1 z2 => (by unfold up; rw [if_neg (by omega)] : up U 60 0 0 x k i j = U k i j).trans (h.1 k i j z1 z2), fun k j z1 z2 z3 => (by unfold up; rw [if_neg (by omega)] : up U 60 0 0 x k 0 j = U k 0 j).trans (h.2 k j z1 z2 z3)⟩
theorem SM_fil {V U : jV} {a cnt : Nat} {d : Int32} (h : SM V U) : SM V (filV U 6 a cnt d) := ⟨fun k i j z1 z2 => (fil6_o z2).trans (h.1 k i j z1 z2), fun k j z1 z2 z3 => (fil6_o (by omega)).trans (h.2 k j z1 z2 z3)⟩
theorem SM_tab {V U : jV} {a cnt : Nat} {d : Int32} (h : SM V U) : SM V (tabY U a cnt d) := ⟨fun k i j z1 z2 => (tab_o (by omega) (by omega) (by omega)).trans (h.1 k i j z1 z2), fun k j z1 z2 z3 => (tab_o (by omega) (by omega) (by omega)).trans (h.2 k j z1 z2 z3)⟩
theorem SM_shw {V U : jV} {a : Nat} (h : SM V U) : SM V (shwV U a) := by
  unfold shwV; split
  · exact SM_fil h
  · exact h
theorem SM_rg {V U : jV} {a : Nat} (h : SM V U) : SM V (rgV U a) := by
  unfold rgV; split
  · exact SM_tab h
  · exact h
theorem Inv_SM {T n : Nat} {V U : jV} (h : Inv T n V V) (s : SM V U) : Inv T n U U := Inv_congr h s.1 (fun k j z1 z2 z3 => s.2 k j z1 z2 z3)
theorem Inv_SW {T n : Nat} {V U : jV} (h : Inv T n V V) (s : SM V U) : Inv T n V U := Inv_congr h (fun _ _ _ _ _ => rfl) (fun k j z1 z2 z3 => s.2 k j z1 z2 z3)
/-- class memory changed to X, out written; the Model's memory is still V's -/
theorem Inv_W1 {T n : Nat} {V U : jV} (h : Inv T n V V) (hU : ∀ k j, 20 ≤ k → k < 50 → ¬ (k = 20 ∧ (j = 0 ∨ j = 29)) → U k 0 j = V k 0 j) : Inv T n V U := Inv_congr h (fun _ _ _ _ _ => rfl) hU
/-- and back into one memory -/
theorem Inv_one {T n : Nat} {X Y : jV} (h : Inv T n X Y) (hX : ∀ k i j, k < 20 → ¬ (6 ≤ k ∧ k ≤ 9 ∧ i = 6) → Y k i j = X k i j) : Inv T n Y Y := Inv_congr h hX (fun _ _ _ _ _ => rfl)
/-- a call of the law by a wrapper: the class's answer k (and out), the Model's answer r -/
def Case (l : Launch) (D : va_G) (ca : Nat → ClassId) (q0 : Nat) (sa : Nat → Nat) (ad : jAd) (yl : MethodName) (cl : ByteArray) (mll : Nat) (hh : List (Nat × Nat × Nat × Nat)) (ym : MethodName) (cm : ByteArray) (mlm : Nat) (rm : Option FieldType) (ps : List Value) (T n : Nat) (V : jV) : Prop :=
  ∃ (k r : Int32) (V1 V2 : jV) (lx lm mc ms T' : Nat), (lx ≤ 7 ∧ lm ≤ 7 ∧ mc ≤ 1 ∧ ms ≤ 6 ∧ T' ≤ T + 60) ∧
    (∀ z, jMetH l D ca q0 sa ad yl cl mll (some .int) hh lx mc ms (.ref (ad 0 0) :: (ps ++ [.ref (ad 60 0)])) (jS z n V) (fun o M9 => o = .inl (some (.int k)) ∧ M9.2 = (LV n, V1, RF n))) ∧
    (∀ z, jMet l D ca q0 sa ad ym cm mlm rm lm 0 0 (.ref (ad 20 0) :: ps) (jS z n V1) (jRet (some (.int r)) (jS z n V2))) ∧
    V2 20 0 0 = k ∧ (k = 0 → V2 60 0 0 = r) ∧ Inv T' n V2 V2
/-- a call without a wrapper -/
def CaseS (l : Launch) (D : va_G) (ca : Nat → ClassId) (q0 : Nat) (sa : Nat → Nat) (ad : jAd) (yx : MethodName) (cx : ByteArray) (mlx : Nat) (ym : MethodName) (cm : ByteArray) (mlm : Nat) (T n : Nat) (V : jV) : Prop :=
  ∃ (r : Int32) (V1 V2 : jV) (lx lm : Nat), (lx ≤ 7 ∧ lm ≤ 7) ∧
    (∀ z, jMet l D ca q0 sa ad yx cx mlx (some .int) lx 0 0 [.ref (ad 0 0)] (jS z n V) (jRet (some (.int r)) (jS z n V1))) ∧
    (∀ z, jMet l D ca q0 sa ad ym cm mlm (some .int) lm 0 0 [.ref (ad 20 0)] (jS z n V1) (jRet (some (.int r)) (jS z n V2))) ∧ Inv T n V2 V2
