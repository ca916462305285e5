theorem jdg_19 {t : Nat} (h1 : 1 ≤ t) (h9 : t ≤ 9) (d : Int32) : ∃ u, 1 ≤ u ∧ u ≤ 9 ∧ jdg (nI t) d = nI u := by
  have e1 : nI t + 1 = nI (t + 1) := jx_add (b := 1) rfl rfl
  have e2 : nI t - 1 = nI (t - 1) := jx_sub (b := 1) rfl rfl h1
  unfold jdg
  rw [e1, e2]
  split
  · by_cases z : 9 < t + 1
    · rw [if_pos ((nlt (a := 9) (x := (9 : Int32)) (by decide) (by omega) rfl rfl).mpr z)]; exact ⟨9, by decide, by decide, rfl⟩
    · rw [if_neg (fun w => z ((nlt (a := 9) (x := (9 : Int32)) (by decide) (by omega) rfl rfl).mp w))]; exact ⟨t + 1, by omega, by omega, rfl⟩
  · by_cases z : t - 1 < 1
    · rw [if_pos ((nlt (b := 1) (y := (1 : Int32)) (by omega) (by decide) rfl rfl).mpr z)]; exact ⟨1, by decide, by decide, rfl⟩
    · rw [if_neg (fun w => z ((nlt (b := 1) (y := (1 : Int32)) (by omega) (by decide) rfl rfl).mp w))]; exact ⟨t - 1, by omega, by omega, rfl⟩
theorem TB_cmp1 {V : jV} {i j : Nat} {mm : Int32} (h : TB V) (hf : tn (V 12 i j) < 6) : TB (cmpV1 V i j mm) := by
  intro f hf2
  unfold cmpV1 up
  by_cases e : f = tn (V 12 i j)
  · rw [if_pos ⟨rfl, rfl, e⟩]
    obtain ⟨t, t1, t2, t3⟩ := h _ hf
    rw [t3]; exact jdg_19 t1 t2 _
  · rw [if_neg (fun q => e q.2.2)]; exact h f hf2
theorem FarV_cmp1 {V : jV} {i j : Nat} {mm : Int32} : FarV i V (cmpV1 V i j mm) := by
  intro k a b _ h2
  unfold cmpV1 up; rw [if_neg (fun q => h2 q.1)]
theorem FarY_ob1 {W : jV} {i j : Nat} {mm : Int32} : FarY i W (obY1 W i j mm) := by
  refine ⟨fun k i' j' h1 h2 _ _ => ?_, fun i' _ => ?_, fun k b hk => ?_⟩
  · unfold obY1 up; rw [if_neg (by omega)]
  · unfold obY1 up; rw [if_neg (by omega)]
  · unfold obY1 up; rw [if_neg (by omega)]
theorem RB_cmp1 {V : jV} {i j c : Nat} {mm : Int32} (h : RB V i c) : RB (cmpV1 V i j mm) i c := RB_congr h (fun k j' z => by unfold cmpV1 up; rw [if_neg (by omega)])
/-- an observation, all of it -/
theorem cmp_all {i : Nat} {mm : Int32} : ∀ (j c : Nat) (V W : jV) (x : Int32), j ≤ c → QR i V W c → RB V i c → TB V →
    (obY i mm j W x).2 = (cmpV i mm j V x).2 ∧ FarV i V (cmpV i mm j V x).1 ∧ FarY i W (obY i mm j W x).1 ∧ TB (cmpV i mm j V x).1 ∧ ∃ c', QR i (cmpV i mm j V x).1 (obY i mm j W x).1 c' ∧ RB (cmpV i mm j V x).1 i c'
  | 0, c, V, W, x, _, h, hb, ht => ⟨rfl, FarV_refl i V, FarY_refl i W, ht, c, h, hb⟩
  | j + 1, c, V, W, x, hj, h, hb, ht => by
    have h1 := QR_cmp1 (mm := mm) h (show j < c by omega)
    have b1 := RB_cmp1 (j := j) (mm := mm) hb
    have hf := (tn_of (b := 6) (by decide) (h.2.2.2.2.2 j (by omega))).2
    have t1 := TB_cmp1 (mm := mm) ht hf
    have e : W 32 0 (6 * i + j) = V 13 i j := (h.2.2.2.1 j (by omega)).2.1
    rw [obY, cmpV, e]
    by_cases q : 30 < absI (V 13 i j - mm)
    · rw [if_pos q, if_pos q]
      obtain ⟨r1, r2, r3, r4, r5⟩ := cmp_all j (c - 1) (remV (cmpV1 V i j mm) i j) (remY (obY1 W i j mm) i j) (x + 1) (by omega) (QR_rem h1 (by omega)) (RB_rem h1.1 h1.2.2.1 (by omega) b1) (TB_rem t1)
      exact ⟨r1, FarV_trans (FarV_trans FarV_cmp1 FarV_rem) r2, FarY_trans (FarY_trans FarY_ob1 (FarY_rem h1.2.1 h1.2.2.1)) r3, r4, r5⟩
    · rw [if_neg q, if_neg q]
      obtain ⟨r1, r2, r3, r4, r5⟩ := cmp_all j c (cmpV1 V i j mm) (obY1 W i j mm) x (by omega) h1 b1 t1
      exact ⟨r1, FarV_trans FarV_cmp1 r2, FarY_trans FarY_ob1 r3, r4, r5⟩
/-- observe keeps the invariant -/
theorem Inv_far {T n i : Nat} {V W V' W' : jV} (h : Inv T n V W) (hV : FarV i V V') (hW : FarY i W W') (hB : IB n V' W') : Inv T n V' W' :=
  ⟨IA_congr h.1 (fun k a b z => hV k a b (by omega) (by omega)) (fun k b z => hW.2.2 k b (by omega)), hB,
   IC_congr h.2.2.1 (fun a b => hV 3 a b (by omega) (by omega)) (fun b => hW.2.2 39 b (by omega)),
   ID_congr h.1.1 h.2.2.2.1 (fun k a b _ z => hV k a b (by omega) (by omega)) (fun k b z => hW.2.2 k b (by omega)),
   IE_congr h.2.2.2.2 (fun k a b z => hV k a b (by omega) (by omega)) (fun k b z => hW.2.2 k b (by omega))⟩
theorem Inv_obs {T n i : Nat} {V W : jV} {mm : Int32} (h : Inv T n V W) (hi : i < n) :
    (obY i mm (tn (V 11 i 3)) W 0).2 = (cmpV i mm (tn (V 11 i 3)) V 0).2 ∧ Inv T n (cmpV i mm (tn (V 11 i 3)) V 0).1 (obY i mm (tn (V 11 i 3)) W 0).1 := by
  obtain ⟨e, q, r⟩ := IB_cnt h.2.1 hi
  obtain ⟨r1, r2, r3, r4, c', r5, r6⟩ := cmp_all (mm := mm) _ _ V W 0 (Nat.le_refl _) q r h.2.1.1
  exact ⟨r1, Inv_far h r2 r3 (IB_upd h.2.1 hi r5 r6 r4 r2 r3)⟩
