theorem jcls_get : ∀ ci, ci < 7 → vwCl[ci]? = some (jC ci, jT ci, jN ci) := by
  intro ci h
  match ci, h with
  | 0, _ => rfl
  | 1, _ => rfl
  | 2, _ => rfl
  | 3, _ => rfl
  | 4, _ => rfl
  | 5, _ => rfl
  | 6, _ => rfl
  | n + 7, h => exact absurd h (by omega)
def jl (ls : List (Option Value)) : List (Nat × Value) := ls.zipIdx.filterMap (fun q => q.1.map (fun v => (q.2, v)))
theorem jl_mem {ls : List (Option Value)} {i : Nat} {v : Value} : (i, v) ∈ jl ls ↔ ls[i]? = some (some v) := by
  unfold jl
  rw [List.mem_filterMap]
  constructor
  · rintro ⟨⟨o, k⟩, hq, he⟩
    rw [List.mem_zipIdx_iff_getElem?] at hq
    cases o with
    | none => simp at he
    | some w =>
      simp at he
      obtain ⟨rfl, rfl⟩ := he
      simpa using hq
  · intro h
    exact ⟨(some v, i), by rw [List.mem_zipIdx_iff_getElem?]; simpa using h, by simp⟩
theorem jL_has {lsC : Array Slot} {nL : Nat} {ls : List (Option Value)} (h : jL lsC nL ls) : lv_has lsC nL (jl ls) := ⟨h.1, h.2.1, fun q hq => (h.2.2 q.1 q.2 (jl_mem.mp hq)).1⟩
theorem jL_set {lsC lsC' : Array Slot} {nL i : Nat} {ls : List (Option Value)} {v : Value} (h : jL lsC nL ls) (hv : v.category = 1) (h' : lv_has lsC' nL ((i, v) :: (jl ls).filter (fun q => !(q.1 == i) && !(q.1 + 1 == i && q.2.category == 2)))) : jL lsC' nL (ls.set i (some v)) := by
  refine ⟨h'.1, h'.2.1, fun j w hj => ?_⟩
  rw [List.getElem?_set] at hj
  by_cases hij : i = j
  · rw [if_pos hij] at hj
    split at hj
    · cases hj
      subst hij
      exact ⟨h'.2.2 _ List.mem_cons_self, hv⟩
    · cases hj
  · rw [if_neg hij] at hj
    have h1 := h.2.2 j w hj
    refine ⟨h'.2.2 (j, w) (List.mem_cons_of_mem _ (List.mem_filter.mpr ⟨jl_mem.mpr hj, ?_⟩)), h1.2⟩
    have : ¬ j = i := fun e => hij e.symm
    simp [this, h1.2]
def up (V : jV) (k i j : Nat) (x : Int32) : jV := fun k' i' j' => if k' = k ∧ i' = i ∧ j' = j then x else V k' i' j'
def upR (V : jR) (k i j : Nat) (x : Option (Nat × Nat)) : jR := fun k' i' j' => if k' = k ∧ i' = i ∧ j' = j then x else V k' i' j'
def upL (V : jLv) (k i : Nat) : jLv := fun k' i' => if k' = k ∧ i' = i then true else V k' i'
theorem jcell_obj {ca : Nat → ClassId} {ad : jAd} {M : jM} {k i ci : Nat} (hs : shp k = (0, ci)) : jcell ca ad M k i = .inr (ci, (List.range (jN ci)).map (fun j => jfv ad M ci k i j)) := by
  unfold jcell; rw [hs]; rfl
theorem jcell_int {ca : Nat → ClassId} {ad : jAd} {M : jM} {k i n : Nat} (hs : shp k = (1, n)) : jcell ca ad M k i = .inl (ca 0, n, .inl (fun j => M.2.2.1 k i j)) := by
  unfold jcell; rw [hs]; rfl
theorem jcell_bool {ca : Nat → ClassId} {ad : jAd} {M : jM} {k i n : Nat} (hs : shp k = (2, n)) : jcell ca ad M k i = .inl (ca 1, n, .inl (fun j => M.2.2.1 k i j)) := by
  unfold jcell; rw [hs]; rfl
theorem jcell_ref {ca : Nat → ClassId} {ad : jAd} {M : jM} {k i n : Nat} (hs : shp k = (3, n)) : jcell ca ad M k i = .inl (ca 3, n, .inr (.inr (.inr (.inr (fun j => (M.2.2.2 k i j).map (fun q => ad q.1 q.2)))))) := by
  unfold jcell; rw [hs]; rfl
theorem jcell_long {ca : Nat → ClassId} {ad : jAd} {M : jM} {k i n : Nat} (hs : shp k = (4, n)) : jcell ca ad M k i = .inl (ca 2, n, .inr (.inl (fun j => (M.2.2.1 k i j).toInt64))) := by
  unfold jcell; rw [hs]; rfl
/-- a cell depends on what M holds there alone -/
theorem jcell_congr {ca : Nat → ClassId} {ad : jAd} {M M' : jM} {k i : Nat} (h1 : ∀ j, M'.2.2.1 k i j = M.2.2.1 k i j) (h2 : ∀ j, M'.2.2.2 k i j = M.2.2.2 k i j) : jcell ca ad M' k i = jcell ca ad M k i := by
  unfold jcell jfv
  simp only [h1, h2]
theorem jRep_put {D : va_G} {ca : Nat → ClassId} {q0 : Nat} {ad : jAd} {M M' : jM} {H H1 : Heap} {k i : Nat} (h : jRep D ca q0 ad M H) (hz : M'.1 = M.1) (hLv : M'.2.1 = M.2.1) (hl : M.2.1 k i = true) (e2 : H1.size = H.size) (e3 : ∀ q : Nat, q ≠ ad k i → H1[q]? = H[q]?)
    (hat : va_at D vwCl (ad k i, jcell ca ad M' k i) H1) (ho : ∀ k' i', ¬ (k' = k ∧ i' = i) → jcell ca ad M' k' i' = jcell ca ad M k' i') : jRep D ca q0 ad M' H1 := by
  obtain ⟨h1, h2, h3⟩ := h
  refine ⟨by rw [hz, e2]; exact h1, fun k' i' hl' => ?_, by rw [hLv]; exact h3⟩
  rw [hLv] at hl'
  by_cases e : k' = k ∧ i' = i
  · obtain ⟨rfl, rfl⟩ := e
    exact ⟨(h2 _ _ hl').1, hat⟩
  · obtain ⟨a1, a2⟩ := h2 k' i' hl'
    refine ⟨a1, ?_⟩
    rw [ho k' i' e]
    exact va_at.kept a2 (e3 _ fun q => e (h3 _ _ _ _ hl' hl q))
theorem jRep_lt {D : va_G} {ca : Nat → ClassId} {q0 : Nat} {ad : jAd} {M : jM} {H : Heap} (h : jRep D ca q0 ad M H) {k i : Nat} (hl : M.2.1 k i = true) : ad k i < H.size := va_at.lt (h.2.1 k i hl).2
theorem jRep_P {D : va_G} {ca : Nat → ClassId} {q0 : Nat} {ad : jAd} {M : jM} {H : Heap} (h : jRep D ca q0 ad M H) {k i : Nat} (hl : M.2.1 k i = true) : va_P D vwCl [(ad k i, jcell ca ad M k i)] H := by
  intro n q hq
  match n, hq with
  | 0, hq => cases hq; exact (h.2.1 k i hl).2
  | n + 1, hq => simp at hq
section J
variable {p : Program} {l : Launch} {e : Env} {R : Room} {s : State} {m : MethodId} {args : Array Value} {below : List Frame} {meth : Method} {c : Code} {D : va_G} {ca : Nat → ClassId} {q0 : Nat} {sa : Nat → Nat} {ad : jAd} {own : String} {cc : ByteArray} {nL : Nat} {ret : Option FieldType} {Q : State → Prop} {kc ks pc : Nat} {ls : List (Option Value)} {st : List Value} {M : jM}
theorem j_iload_n (K : jK p l R s m args meth c D ca q0 sa own cc nL ret) {k : Fin 4} {x : Int32} (i : Nat) (hd : decode cc pc = .ok (.iload_n k, 1)) (hi : (k : Nat) = i) (hl : ls[i]? = some (some (.int x))) (kk : jW p l e R s m args below meth c D ca q0 ad nL Q kc ks (pc + 1) ls (.int x :: st) M) : jW p l e R s m args below meth c D ca q0 ad nL Q kc ks pc ls st M :=
  fun H locs lsC cells slots h1 h2 h3 h4 h5 => lv_iload_n K.1 K.2.1 hd hi (h1.2.2 _ _ hl).1 (kk H locs lsC cells slots h1 h2 h3 h4 h5)
theorem j_iload (K : jK p l R s m args meth c D ca q0 sa own cc nL ret) {i : Nat} {x : Int32} (hd : decode cc pc = .ok (.iload i, 2)) (hl : ls[i]? = some (some (.int x))) (kk : jW p l e R s m args below meth c D ca q0 ad nL Q kc ks (pc + 2) ls (.int x :: st) M) : jW p l e R s m args below meth c D ca q0 ad nL Q kc ks pc ls st M :=
  fun H locs lsC cells slots h1 h2 h3 h4 h5 => lv_iload K.1 K.2.1 hd (h1.2.2 _ _ hl).1 (kk H locs lsC cells slots h1 h2 h3 h4 h5)
theorem j_aload_n (K : jK p l R s m args meth c D ca q0 sa own cc nL ret) {k : Fin 4} {x : Nat} (i : Nat) (hd : decode cc pc = .ok (.aload_n k, 1)) (hi : (k : Nat) = i) (hl : ls[i]? = some (some (.ref x))) (kk : jW p l e R s m args below meth c D ca q0 ad nL Q kc ks (pc + 1) ls (.ref x :: st) M) : jW p l e R s m args below meth c D ca q0 ad nL Q kc ks pc ls st M :=
  fun H locs lsC cells slots h1 h2 h3 h4 h5 => lv_aload_n K.1 K.2.1 hd hi (h1.2.2 _ _ hl).1 (kk H locs lsC cells slots h1 h2 h3 h4 h5)
theorem j_aload (K : jK p l R s m args meth c D ca q0 sa own cc nL ret) {i : Nat} {x : Nat} (hd : decode cc pc = .ok (.aload i, 2)) (hl : ls[i]? = some (some (.ref x))) (kk : jW p l e R s m args below meth c D ca q0 ad nL Q kc ks (pc + 2) ls (.ref x :: st) M) : jW p l e R s m args below meth c D ca q0 ad nL Q kc ks pc ls st M :=
  fun H locs lsC cells slots h1 h2 h3 h4 h5 => lv_aload K.1 K.2.1 hd (h1.2.2 _ _ hl).1 (kk H locs lsC cells slots h1 h2 h3 h4 h5)
theorem j_istore_n (K : jK p l R s m args meth c D ca q0 sa own cc nL ret) {k : Fin 4} {x : Int32} (i : Nat) (hd : decode cc pc = .ok (.istore_n k, 1)) (hi : (k : Nat) = i) (hn : i < nL) (kk : jW p l e R s m args below meth c D ca q0 ad nL Q kc ks (pc + 1) (ls.set i (some (.int x))) st M) : jW p l e R s m args below meth c D ca q0 ad nL Q kc ks pc ls (.int x :: st) M :=
  fun H locs lsC cells slots h1 h2 h3 h4 h5 => lv_istore_n K.1 K.2.1 hd hi (jL_has h1) hn rfl (fun lsC' h' => kk H locs lsC' cells slots (jL_set h1 rfl h') h2 h3 h4 h5)
theorem j_istore (K : jK p l R s m args meth c D ca q0 sa own cc nL ret) {i : Nat} {x : Int32} (hd : decode cc pc = .ok (.istore i, 2)) (hn : i < nL) (kk : jW p l e R s m args below meth c D ca q0 ad nL Q kc ks (pc + 2) (ls.set i (some (.int x))) st M) : jW p l e R s m args below meth c D ca q0 ad nL Q kc ks pc ls (.int x :: st) M :=
  fun H locs lsC cells slots h1 h2 h3 h4 h5 => lv_istore K.1 K.2.1 hd (jL_has h1) hn rfl (fun lsC' h' => kk H locs lsC' cells slots (jL_set h1 rfl h') h2 h3 h4 h5)
theorem j_astore_n (K : jK p l R s m args meth c D ca q0 sa own cc nL ret) {k : Fin 4} {x : Nat} (i : Nat) (hd : decode cc pc = .ok (.astore_n k, 1)) (hi : (k : Nat) = i) (hn : i < nL) (kk : jW p l e R s m args below meth c D ca q0 ad nL Q kc ks (pc + 1) (ls.set i (some (.ref x))) st M) : jW p l e R s m args below meth c D ca q0 ad nL Q kc ks pc ls (.ref x :: st) M :=
  fun H locs lsC cells slots h1 h2 h3 h4 h5 => lv_astore_n K.1 K.2.1 hd hi (jL_has h1) hn rfl (fun lsC' h' => kk H locs lsC' cells slots (jL_set h1 rfl h') h2 h3 h4 h5)
theorem j_astore (K : jK p l R s m args meth c D ca q0 sa own cc nL ret) {i : Nat} {x : Nat} (hd : decode cc pc = .ok (.astore i, 2)) (hn : i < nL) (kk : jW p l e R s m args below meth c D ca q0 ad nL Q kc ks (pc + 2) (ls.set i (some (.ref x))) st M) : jW p l e R s m args below meth c D ca q0 ad nL Q kc ks pc ls (.ref x :: st) M :=
  fun H locs lsC cells slots h1 h2 h3 h4 h5 => lv_astore K.1 K.2.1 hd (jL_has h1) hn rfl (fun lsC' h' => kk H locs lsC' cells slots (jL_set h1 rfl h') h2 h3 h4 h5)
theorem j_iinc (K : jK p l R s m args meth c D ca q0 sa own cc nL ret) {i : Nat} {n : Int} {x v : Int32} (hd : decode cc pc = .ok (.iinc i n, 3)) (hl : ls[i]? = some (some (.int x))) (hn : i < nL) (hv : x + Int32.ofInt n = v) (kk : jW p l e R s m args below meth c D ca q0 ad nL Q kc ks (pc + 3) (ls.set i (some (.int v))) st M) : jW p l e R s m args below meth c D ca q0 ad nL Q kc ks pc ls st M := by
  intro H locs lsC cells slots h1 h2 h3 h4 h5
  obtain ⟨k, hk⟩ := List.getElem?_of_mem (jl_mem.mpr hl)
  exact lv_iinc K.1 K.2.1 hd (jL_has h1) hk hv hn rfl (fun lsC' h' => kk H locs lsC' cells slots (jL_set h1 rfl h') h2 h3 h4 h5)
theorem j_iconst (K : jK p l R s m args meth c D ca q0 sa own cc nL ret) {n : Int} (v : Int32) (hd : decode cc pc = .ok (.iconst n, 1)) (hv : Int32.ofInt n = v) (kk : jW p l e R s m args below meth c D ca q0 ad nL Q kc ks (pc + 1) ls (.int v :: st) M) : jW p l e R s m args below meth c D ca q0 ad nL Q kc ks pc ls st M :=
  fun H locs lsC cells slots h1 h2 h3 h4 h5 => lv_iconst K.1 K.2.1 hd hv (kk H locs lsC cells slots h1 h2 h3 h4 h5)
theorem j_bipush (K : jK p l R s m args meth c D ca q0 sa own cc nL ret) {n : Int} (v : Int32) (hd : decode cc pc = .ok (.bipush n, 2)) (hv : (Int8.ofInt n).toInt32 = v) (kk : jW p l e R s m args below meth c D ca q0 ad nL Q kc ks (pc + 2) ls (.int v :: st) M) : jW p l e R s m args below meth c D ca q0 ad nL Q kc ks pc ls st M :=
  fun H locs lsC cells slots h1 h2 h3 h4 h5 => lv_bipush K.1 K.2.1 hd hv (kk H locs lsC cells slots h1 h2 h3 h4 h5)
theorem j_sipush (K : jK p l R s m args meth c D ca q0 sa own cc nL ret) {n : Int} (v : Int32) (hd : decode cc pc = .ok (.sipush n, 3)) (hv : (Int16.ofInt n).toInt32 = v) (kk : jW p l e R s m args below meth c D ca q0 ad nL Q kc ks (pc + 3) ls (.int v :: st) M) : jW p l e R s m args below meth c D ca q0 ad nL Q kc ks pc ls st M :=
  fun H locs lsC cells slots h1 h2 h3 h4 h5 => lv_sipush K.1 K.2.1 hd hv (kk H locs lsC cells slots h1 h2 h3 h4 h5)
theorem j_ldcw (K : jK p l R s m args meth c D ca q0 sa own cc nL ret) {index : Nat} (v : Int32) (hd : decode cc pc = .ok (.ldc_w index, 3)) (hw : Cond.constant own index v ∈ WG) (kk : jW p l e R s m args below meth c D ca q0 ad nL Q kc ks (pc + 3) ls (.int v :: st) M) : jW p l e R s m args below meth c D ca q0 ad nL Q kc ks pc ls st M :=
  fun H locs lsC cells slots h1 h2 h3 h4 h5 => lv_ldcw K.1 K.2.1 K.2.2.2.1 (K.2.2.2.2.1 _ hw) hd (kk H locs lsC cells slots h1 h2 h3 h4 h5)
theorem j_ldc (K : jK p l R s m args meth c D ca q0 sa own cc nL ret) {index : Nat} (v : Int32) (hd : decode cc pc = .ok (.ldc index, 2)) (hw : Cond.constant own index v ∈ WG) (kk : jW p l e R s m args below meth c D ca q0 ad nL Q kc ks (pc + 2) ls (.int v :: st) M) : jW p l e R s m args below meth c D ca q0 ad nL Q kc ks pc ls st M :=
  fun H locs lsC cells slots h1 h2 h3 h4 h5 => lv_ldc K.1 K.2.1 K.2.2.2.1 (K.2.2.2.2.1 _ hw) hd (kk H locs lsC cells slots h1 h2 h3 h4 h5)
theorem j_lconst (K : jK p l R s m args meth c D ca q0 sa own cc nL ret) {n : Fin 2} (v : Int64) (hd : decode cc pc = .ok (.lconst n, 1)) (hv : Int64.ofNat (n : Nat) = v) (kk : jW p l e R s m args below meth c D ca q0 ad nL Q kc ks (pc + 1) ls (.long v :: st) M) : jW p l e R s m args below meth c D ca q0 ad nL Q kc ks pc ls st M :=
  fun H locs lsC cells slots h1 h2 h3 h4 h5 => lv_lconst K.1 K.2.1 hd hv (kk H locs lsC cells slots h1 h2 h3 h4 h5)
theorem j_i2l (K : jK p l R s m args meth c D ca q0 sa own cc nL ret) {x : Int32} (hd : decode cc pc = .ok (.i2l, 1)) (kk : jW p l e R s m args below meth c D ca q0 ad nL Q kc ks (pc + 1) ls (.long x.toInt64 :: st) M) : jW p l e R s m args below meth c D ca q0 ad nL Q kc ks pc ls (.int x :: st) M :=
  fun H locs lsC cells slots h1 h2 h3 h4 h5 => lv_i2l K.1 K.2.1 hd rfl (kk H locs lsC cells slots h1 h2 h3 h4 h5)
theorem j_iadd (K : jK p l R s m args meth c D ca q0 sa own cc nL ret) {x y : Int32} (hd : decode cc pc = .ok (.iadd, 1)) (kk : jW p l e R s m args below meth c D ca q0 ad nL Q kc ks (pc + 1) ls (.int (x + y) :: st) M) : jW p l e R s m args below meth c D ca q0 ad nL Q kc ks pc ls (.int y :: .int x :: st) M :=
  fun H locs lsC cells slots h1 h2 h3 h4 h5 => lv_iadd K.1 K.2.1 hd (kk H locs lsC cells slots h1 h2 h3 h4 h5)
theorem j_isub (K : jK p l R s m args meth c D ca q0 sa own cc nL ret) {x y : Int32} (hd : decode cc pc = .ok (.isub, 1)) (kk : jW p l e R s m args below meth c D ca q0 ad nL Q kc ks (pc + 1) ls (.int (x - y) :: st) M) : jW p l e R s m args below meth c D ca q0 ad nL Q kc ks pc ls (.int y :: .int x :: st) M :=
  fun H locs lsC cells slots h1 h2 h3 h4 h5 => lv_isub K.1 K.2.1 hd (kk H locs lsC cells slots h1 h2 h3 h4 h5)
theorem j_imul (K : jK p l R s m args meth c D ca q0 sa own cc nL ret) {x y : Int32} (hd : decode cc pc = .ok (.imul, 1)) (kk : jW p l e R s m args below meth c D ca q0 ad nL Q kc ks (pc + 1) ls (.int (x * y) :: st) M) : jW p l e R s m args below meth c D ca q0 ad nL Q kc ks pc ls (.int y :: .int x :: st) M :=
  fun H locs lsC cells slots h1 h2 h3 h4 h5 => lv_imul K.1 K.2.1 hd (kk H locs lsC cells slots h1 h2 h3 h4 h5)
theorem j_idiv (K : jK p l R s m args meth c D ca q0 sa own cc nL ret) {x y : Int32} (hd : decode cc pc = .ok (.idiv, 1)) (hne : ¬ y = 0) (kk : jW p l e R s m args below meth c D ca q0 ad nL Q kc ks (pc + 1) ls (.int (x / y) :: st) M) : jW p l e R s m args below meth c D ca q0 ad nL Q kc ks pc ls (.int y :: .int x :: st) M :=
  fun H locs lsC cells slots h1 h2 h3 h4 h5 => lv_idiv K.1 K.2.1 hd hne (kk H locs lsC cells slots h1 h2 h3 h4 h5)
theorem j_irem (K : jK p l R s m args meth c D ca q0 sa own cc nL ret) {x y : Int32} (hd : decode cc pc = .ok (.irem, 1)) (hne : ¬ y = 0) (kk : jW p l e R s m args below meth c D ca q0 ad nL Q kc ks (pc + 1) ls (.int (x - x / y * y) :: st) M) : jW p l e R s m args below meth c D ca q0 ad nL Q kc ks pc ls (.int y :: .int x :: st) M :=
  fun H locs lsC cells slots h1 h2 h3 h4 h5 => lv_irem K.1 K.2.1 hd hne (kk H locs lsC cells slots h1 h2 h3 h4 h5)
theorem j_iand (K : jK p l R s m args meth c D ca q0 sa own cc nL ret) {x y : Int32} (hd : decode cc pc = .ok (.iand, 1)) (kk : jW p l e R s m args below meth c D ca q0 ad nL Q kc ks (pc + 1) ls (.int (x &&& y) :: st) M) : jW p l e R s m args below meth c D ca q0 ad nL Q kc ks pc ls (.int y :: .int x :: st) M :=
  fun H locs lsC cells slots h1 h2 h3 h4 h5 => lv_iand K.1 K.2.1 hd (kk H locs lsC cells slots h1 h2 h3 h4 h5)
theorem j_ior (K : jK p l R s m args meth c D ca q0 sa own cc nL ret) {x y : Int32} (hd : decode cc pc = .ok (.ior, 1)) (kk : jW p l e R s m args below meth c D ca q0 ad nL Q kc ks (pc + 1) ls (.int (x ||| y) :: st) M) : jW p l e R s m args below meth c D ca q0 ad nL Q kc ks pc ls (.int y :: .int x :: st) M :=
  fun H locs lsC cells slots h1 h2 h3 h4 h5 => lv_ior K.1 K.2.1 hd (kk H locs lsC cells slots h1 h2 h3 h4 h5)
theorem j_ixor (K : jK p l R s m args meth c D ca q0 sa own cc nL ret) {x y : Int32} (hd : decode cc pc = .ok (.ixor, 1)) (kk : jW p l e R s m args below meth c D ca q0 ad nL Q kc ks (pc + 1) ls (.int (x ^^^ y) :: st) M) : jW p l e R s m args below meth c D ca q0 ad nL Q kc ks pc ls (.int y :: .int x :: st) M :=
  fun H locs lsC cells slots h1 h2 h3 h4 h5 => lv_ixor K.1 K.2.1 hd (kk H locs lsC cells slots h1 h2 h3 h4 h5)
theorem j_ishl (K : jK p l R s m args meth c D ca q0 sa own cc nL ret) {x y : Int32} (hd : decode cc pc = .ok (.ishl, 1)) (kk : jW p l e R s m args below meth c D ca q0 ad nL Q kc ks (pc + 1) ls (.int (x <<< (y &&& 31)) :: st) M) : jW p l e R s m args below meth c D ca q0 ad nL Q kc ks pc ls (.int y :: .int x :: st) M :=
  fun H locs lsC cells slots h1 h2 h3 h4 h5 => lv_ishl K.1 K.2.1 hd (kk H locs lsC cells slots h1 h2 h3 h4 h5)
theorem j_dup (K : jK p l R s m args meth c D ca q0 sa own cc nL ret) {v : Value} (hd : decode cc pc = .ok (.dup, 1)) (hv : v.category = 1) (kk : jW p l e R s m args below meth c D ca q0 ad nL Q kc ks (pc + 1) ls (v :: v :: st) M) : jW p l e R s m args below meth c D ca q0 ad nL Q kc ks pc ls (v :: st) M :=
  fun H locs lsC cells slots h1 h2 h3 h4 h5 => lv_dup K.1 K.2.1 hd hv (kk H locs lsC cells slots h1 h2 h3 h4 h5)
theorem j_dup2 (K : jK p l R s m args meth c D ca q0 sa own cc nL ret) {v w : Value} (hd : decode cc pc = .ok (.dup2, 1)) (hv : v.category = 1) (hw : w.category = 1) (kk : jW p l e R s m args below meth c D ca q0 ad nL Q kc ks (pc + 1) ls (v :: w :: v :: w :: st) M) : jW p l e R s m args below meth c D ca q0 ad nL Q kc ks pc ls (v :: w :: st) M :=
  fun H locs lsC cells slots h1 h2 h3 h4 h5 => lv_dup2_11 K.1 K.2.1 hd hv hw (kk H locs lsC cells slots h1 h2 h3 h4 h5)
theorem j_goto (K : jK p l R s m args meth c D ca q0 sa own cc nL ret) {off : Int} (tgt : Nat) (hd : decode cc pc = .ok (.goto off, 3)) (ht : (pc : Int) + off = (tgt : Int)) (kk : jW p l e R s m args below meth c D ca q0 ad nL Q kc ks tgt ls st M) : jW p l e R s m args below meth c D ca q0 ad nL Q kc ks pc ls st M :=
  fun H locs lsC cells slots h1 h2 h3 h4 h5 => lv_goto K.1 K.2.1 hd ht (kk H locs lsC cells slots h1 h2 h3 h4 h5)
theorem j_icmp_eq (K : jK p l R s m args meth c D ca q0 sa own cc nL ret) {x y : Int32} {off : Int} (tgt : Nat) (hd : decode cc pc = .ok (.if_icmp .eq off, 3)) (ht : (pc : Int) + off = (tgt : Int)) (kt : x = y → jW p l e R s m args below meth c D ca q0 ad nL Q kc ks tgt ls st M) (kf : ¬ x = y → jW p l e R s m args below meth c D ca q0 ad nL Q kc ks (pc + 3) ls st M) : jW p l e R s m args below meth c D ca q0 ad nL Q kc ks pc ls (.int y :: .int x :: st) M :=
  fun H locs lsC cells slots h1 h2 h3 h4 h5 => lv_icmp_eq K.1 K.2.1 hd ht (fun h => kt h H locs lsC cells slots h1 h2 h3 h4 h5) (fun h => kf h H locs lsC cells slots h1 h2 h3 h4 h5)
theorem j_if_eq (K : jK p l R s m args meth c D ca q0 sa own cc nL ret) {x : Int32} {off : Int} (tgt : Nat) (hd : decode cc pc = .ok (.ifCond .eq off, 3)) (ht : (pc : Int) + off = (tgt : Int)) (kt : x = 0 → jW p l e R s m args below meth c D ca q0 ad nL Q kc ks tgt ls st M) (kf : ¬ x = 0 → jW p l e R s m args below meth c D ca q0 ad nL Q kc ks (pc + 3) ls st M) : jW p l e R s m args below meth c D ca q0 ad nL Q kc ks pc ls (.int x :: st) M :=
  fun H locs lsC cells slots h1 h2 h3 h4 h5 => lv_if_eq K.1 K.2.1 hd ht (fun h => kt h H locs lsC cells slots h1 h2 h3 h4 h5) (fun h => kf h H locs lsC cells slots h1 h2 h3 h4 h5)
theorem j_icmp_ne (K : jK p l R s m args meth c D ca q0 sa own cc nL ret) {x y : Int32} {off : Int} (tgt : Nat) (hd : decode cc pc = .ok (.if_icmp .ne off, 3)) (ht : (pc : Int) + off = (tgt : Int)) (kt : ¬ x = y → jW p l e R s m args below meth c D ca q0 ad nL Q kc ks tgt ls st M) (kf : x = y → jW p l e R s m args below meth c D ca q0 ad nL Q kc ks (pc + 3) ls st M) : jW p l e R s m args below meth c D ca q0 ad nL Q kc ks pc ls (.int y :: .int x :: st) M :=
  fun H locs lsC cells slots h1 h2 h3 h4 h5 => lv_icmp_ne K.1 K.2.1 hd ht (fun h => kt h H locs lsC cells slots h1 h2 h3 h4 h5) (fun h => kf h H locs lsC cells slots h1 h2 h3 h4 h5)
theorem j_if_ne (K : jK p l R s m args meth c D ca q0 sa own cc nL ret) {x : Int32} {off : Int} (tgt : Nat) (hd : decode cc pc = .ok (.ifCond .ne off, 3)) (ht : (pc : Int) + off = (tgt : Int)) (kt : ¬ x = 0 → jW p l e R s m args below meth c D ca q0 ad nL Q kc ks tgt ls st M) (kf : x = 0 → jW p l e R s m args below meth c D ca q0 ad nL Q kc ks (pc + 3) ls st M) : jW p l e R s m args below meth c D ca q0 ad nL Q kc ks pc ls (.int x :: st) M :=
  fun H locs lsC cells slots h1 h2 h3 h4 h5 => lv_if_ne K.1 K.2.1 hd ht (fun h => kt h H locs lsC cells slots h1 h2 h3 h4 h5) (fun h => kf h H locs lsC cells slots h1 h2 h3 h4 h5)
theorem j_icmp_lt (K : jK p l R s m args meth c D ca q0 sa own cc nL ret) {x y : Int32} {off : Int} (tgt : Nat) (hd : decode cc pc = .ok (.if_icmp .lt off, 3)) (ht : (pc : Int) + off = (tgt : Int)) (kt : x < y → jW p l e R s m args below meth c D ca q0 ad nL Q kc ks tgt ls st M) (kf : ¬ x < y → jW p l e R s m args below meth c D ca q0 ad nL Q kc ks (pc + 3) ls st M) : jW p l e R s m args below meth c D ca q0 ad nL Q kc ks pc ls (.int y :: .int x :: st) M :=
  fun H locs lsC cells slots h1 h2 h3 h4 h5 => lv_icmp_lt K.1 K.2.1 hd ht (fun h => kt h H locs lsC cells slots h1 h2 h3 h4 h5) (fun h => kf h H locs lsC cells slots h1 h2 h3 h4 h5)
theorem j_if_lt (K : jK p l R s m args meth c D ca q0 sa own cc nL ret) {x : Int32} {off : Int} (tgt : Nat) (hd : decode cc pc = .ok (.ifCond .lt off, 3)) (ht : (pc : Int) + off = (tgt : Int)) (kt : x < 0 → jW p l e R s m args below meth c D ca q0 ad nL Q kc ks tgt ls st M) (kf : ¬ x < 0 → jW p l e R s m args below meth c D ca q0 ad nL Q kc ks (pc + 3) ls st M) : jW p l e R s m args below meth c D ca q0 ad nL Q kc ks pc ls (.int x :: st) M :=
  fun H locs lsC cells slots h1 h2 h3 h4 h5 => lv_if_lt K.1 K.2.1 hd ht (fun h => kt h H locs lsC cells slots h1 h2 h3 h4 h5) (fun h => kf h H locs lsC cells slots h1 h2 h3 h4 h5)
theorem j_icmp_ge (K : jK p l R s m args meth c D ca q0 sa own cc nL ret) {x y : Int32} {off : Int} (tgt : Nat) (hd : decode cc pc = .ok (.if_icmp .ge off, 3)) (ht : (pc : Int) + off = (tgt : Int)) (kt : y ≤ x → jW p l e R s m args below meth c D ca q0 ad nL Q kc ks tgt ls st M) (kf : ¬ y ≤ x → jW p l e R s m args below meth c D ca q0 ad nL Q kc ks (pc + 3) ls st M) : jW p l e R s m args below meth c D ca q0 ad nL Q kc ks pc ls (.int y :: .int x :: st) M :=
  fun H locs lsC cells slots h1 h2 h3 h4 h5 => lv_icmp_ge K.1 K.2.1 hd ht (fun h => kt h H locs lsC cells slots h1 h2 h3 h4 h5) (fun h => kf h H locs lsC cells slots h1 h2 h3 h4 h5)
theorem j_if_ge (K : jK p l R s m args meth c D ca q0 sa own cc nL ret) {x : Int32} {off : Int} (tgt : Nat) (hd : decode cc pc = .ok (.ifCond .ge off, 3)) (ht : (pc : Int) + off = (tgt : Int)) (kt : 0 ≤ x → jW p l e R s m args below meth c D ca q0 ad nL Q kc ks tgt ls st M) (kf : ¬ 0 ≤ x → jW p l e R s m args below meth c D ca q0 ad nL Q kc ks (pc + 3) ls st M) : jW p l e R s m args below meth c D ca q0 ad nL Q kc ks pc ls (.int x :: st) M :=
  fun H locs lsC cells slots h1 h2 h3 h4 h5 => lv_if_ge K.1 K.2.1 hd ht (fun h => kt h H locs lsC cells slots h1 h2 h3 h4 h5) (fun h => kf h H locs lsC cells slots h1 h2 h3 h4 h5)
theorem j_icmp_gt (K : jK p l R s m args meth c D ca q0 sa own cc nL ret) {x y : Int32} {off : Int} (tgt : Nat) (hd : decode cc pc = .ok (.if_icmp .gt off, 3)) (ht : (pc : Int) + off = (tgt : Int)) (kt : y < x → jW p l e R s m args below meth c D ca q0 ad nL Q kc ks tgt ls st M) (kf : ¬ y < x → jW p l e R s m args below meth c D ca q0 ad nL Q kc ks (pc + 3) ls st M) : jW p l e R s m args below meth c D ca q0 ad nL Q kc ks pc ls (.int y :: .int x :: st) M :=
  fun H locs lsC cells slots h1 h2 h3 h4 h5 => lv_icmp_gt K.1 K.2.1 hd ht (fun h => kt h H locs lsC cells slots h1 h2 h3 h4 h5) (fun h => kf h H locs lsC cells slots h1 h2 h3 h4 h5)
theorem j_if_gt (K : jK p l R s m args meth c D ca q0 sa own cc nL ret) {x : Int32} {off : Int} (tgt : Nat) (hd : decode cc pc = .ok (.ifCond .gt off, 3)) (ht : (pc : Int) + off = (tgt : Int)) (kt : 0 < x → jW p l e R s m args below meth c D ca q0 ad nL Q kc ks tgt ls st M) (kf : ¬ 0 < x → jW p l e R s m args below meth c D ca q0 ad nL Q kc ks (pc + 3) ls st M) : jW p l e R s m args below meth c D ca q0 ad nL Q kc ks pc ls (.int x :: st) M :=
  fun H locs lsC cells slots h1 h2 h3 h4 h5 => lv_if_gt K.1 K.2.1 hd ht (fun h => kt h H locs lsC cells slots h1 h2 h3 h4 h5) (fun h => kf h H locs lsC cells slots h1 h2 h3 h4 h5)
theorem j_icmp_le (K : jK p l R s m args meth c D ca q0 sa own cc nL ret) {x y : Int32} {off : Int} (tgt : Nat) (hd : decode cc pc = .ok (.if_icmp .le off, 3)) (ht : (pc : Int) + off = (tgt : Int)) (kt : x ≤ y → jW p l e R s m args below meth c D ca q0 ad nL Q kc ks tgt ls st M) (kf : ¬ x ≤ y → jW p l e R s m args below meth c D ca q0 ad nL Q kc ks (pc + 3) ls st M) : jW p l e R s m args below meth c D ca q0 ad nL Q kc ks pc ls (.int y :: .int x :: st) M :=
  fun H locs lsC cells slots h1 h2 h3 h4 h5 => lv_icmp_le K.1 K.2.1 hd ht (fun h => kt h H locs lsC cells slots h1 h2 h3 h4 h5) (fun h => kf h H locs lsC cells slots h1 h2 h3 h4 h5)
theorem j_if_le (K : jK p l R s m args meth c D ca q0 sa own cc nL ret) {x : Int32} {off : Int} (tgt : Nat) (hd : decode cc pc = .ok (.ifCond .le off, 3)) (ht : (pc : Int) + off = (tgt : Int)) (kt : x ≤ 0 → jW p l e R s m args below meth c D ca q0 ad nL Q kc ks tgt ls st M) (kf : ¬ x ≤ 0 → jW p l e R s m args below meth c D ca q0 ad nL Q kc ks (pc + 3) ls st M) : jW p l e R s m args below meth c D ca q0 ad nL Q kc ks pc ls (.int x :: st) M :=
  fun H locs lsC cells slots h1 h2 h3 h4 h5 => lv_if_le K.1 K.2.1 hd ht (fun h => kt h H locs lsC cells slots h1 h2 h3 h4 h5) (fun h => kf h H locs lsC cells slots h1 h2 h3 h4 h5)
/-- more is known than is wanted -/
theorem jL_sub {lsC : Array Slot} {ls' : List (Option Value)} (h : jL lsC nL ls) (hs : ∀ (i : Nat) (v : Value), ls'[i]? = some (some v) → ls[i]? = some (some v)) : jL lsC nL ls' := ⟨h.1, h.2.1, fun i v hv => h.2.2 i v (hs i v hv)⟩
theorem j_locals {ls' : List (Option Value)} (hs : ∀ (i : Nat) (v : Value), ls'[i]? = some (some v) → ls[i]? = some (some v)) (kk : jW p l e R s m args below meth c D ca q0 ad nL Q kc ks pc ls' st M) : jW p l e R s m args below meth c D ca q0 ad nL Q kc ks pc ls st M :=
  fun H locs lsC cells slots h1 h2 h3 h4 h5 => kk H locs lsC cells slots (jL_sub h1 hs) h2 h3 h4 h5
theorem j_room {kc' ks' : Nat} (hc : kc' ≤ kc) (hs : ks' ≤ ks) (kk : jW p l e R s m args below meth c D ca q0 ad nL Q kc' ks' pc ls st M) : jW p l e R s m args below meth c D ca q0 ad nL Q kc ks pc ls st M :=
  fun H locs lsC cells slots h1 h2 h3 h4 h5 => kk H locs lsC cells slots h1 h2 h3 (by omega) (by omega)
end J
