def ad0 (z : Nat) : jAd := fun k i => match k, i with
  | 0, _ => z
  | 1, 0 => z + 1
  | 2, 0 => z + 2
  | 3, 0 => z + 3
  | 4, 0 => z + 4
  | 5, 0 => z + 5
  | 4, 1 => z + 6
  | 5, 1 => z + 7
  | 6, 6 => z + 8
  | 7, 6 => z + 9
  | 8, 6 => z + 10
  | 9, 6 => z + 11
  | 20, _ => z + 12
  | 24, _ => z + 13
  | 25, _ => z + 14
  | 26, _ => z + 15
  | 27, _ => z + 16
  | 28, _ => z + 17
  | 29, _ => z + 18
  | 30, _ => z + 19
  | 31, _ => z + 20
  | 32, _ => z + 21
  | 33, _ => z + 22
  | 34, _ => z + 23
  | 35, _ => z + 24
  | 39, _ => z + 25
  | 42, _ => z + 26
  | 43, _ => z + 27
  | 44, _ => z + 28
  | 45, _ => z + 29
  | 46, _ => z + 30
  | 47, _ => z + 31
  | 48, _ => z + 32
  | 49, _ => z + 33
  | 51, _ => z + 34
  | 52, _ => z + 35
  | 60, _ => z + 36
  | _, _ => z
theorem no_traces {l : Launch} (h : l.flags = flags0) : l.stackTraces = false := by
  unfold Launch.stackTraces
  rw [h]
  decide +kernel
theorem rep_0 {D : va_G} {ca : Nat → ClassId} {ad : jAd} {V : jV} {H : Heap} : jRep D ca H.size ad (H.size, L00, V, R00) H :=
  ⟨rfl, fun _ _ h => (by cases h), fun _ _ _ _ h => (by cases h)⟩
set_option maxRecDepth 20000 in
set_option maxHeartbeats 400000 in
/-- from the entry to the end -/
theorem whole_start {p : Program} {e : Env} {s : State} {m : MethodId} {below : List Frame} {meth : Method} {c : Code} (l : Launch) (hflags : l.flags = flags0) {b L : Nat} {xs : Nat → Int32} (hL : L ≤ 3072) (C0 : lw_At p s m meth c b L xs) : W p l e room_1 s m #[Value.ref b] below meth c s.heap [] 0 0 (lw_Z below #[Value.ref b] s) (entryFrame m ([Value.ref b] : List Value).toArray 7) := by
  obtain ⟨hx, hb, hr, hml, hown, hts, hX0, hbl, hlocks, hgv⟩ := C0
  obtain ⟨D, ca, sa, hE, hN⟩ := world_of hts hgv
  have K : jK p l room_1 s m #[Value.ref b] meth c D ca s.heap.size sa RL cL_law 7 ret := ⟨hx, hb, hml, hown, fun w h => hts w (wg_in w h), hlocks, hE, Nat.le_refl _, hr, no_traces hflags⟩
  have hX : jX s s.heap.size b L xs := ⟨hX0, hbl, hbl, hL⟩
  have hend : ∀ (ad : jAd) (z n i : Nat) (V : jV) (o5 o6 : Option Value) (kc ks : Nat), jW p l e room_1 s m #[Value.ref b] below meth c D ca s.heap.size ad 7 (lw_Z below #[Value.ref b] s) kc ks 2617 [some (.ref b), some (.ref (ad 0 0)), some (.ref (ad 20 0)), some (.ref (ad 60 0)), some (.int (nI i)), o5, o6] [] (jS z n V) := by
    intro ad z n i V o5 o6 kc ks H locs lsC cells slots h1 h2 h3 h4 h5
    refine va_forget (fun q hq => h3.2.2 q hq) ?_
    refine W.widen (k := 601024) (n := 7293034) (by have : cells + kc ≤ 601024 := h4; omega) (by have : slots + ks ≤ 7293034 := h5; omega) ?_
    refine lv_iconst (v := 1) hx hb dL_law_2617 (by decide) ?_
    exact lw_ret hx hb hr hlocks dL_law_2618
  have start : jW p l e room_1 s m #[Value.ref b] below meth c D ca s.heap.size (ad0 s.heap.size) 7 (lw_Z below #[Value.ref b] s) 6181 31156 0 [some (.ref b), none, none, none, none, none, none] [] (s.heap.size, L00, (fun _ _ _ => 0 : jV), R00) := by
    generalize hz : s.heap.size = z at *
    refine jNew K 0 0 dL_law_0 rfl (by decide) cl_L_8 in_X5 ii_X5 (by decide +kernel) rfl rfl (by decide) (by decide) ?_
    refine j_dup K dL_law_3 rfl ?_
    refine j_cI K dL_law_4 m_X5_init i_X5_init k_L_129 rfl (c_X5_init rfl rfl rfl rfl rfl rfl rfl rfl rfl rfl rfl rfl rfl rfl rfl rfl rfl rfl rfl rfl rfl rfl rfl) rfl rfl (by simp [Value.category]) ⟨(by show _ ≤ 14; decide), (by show _ ≤ 518; decide)⟩ (by decide) (by decide) ?_
    refine j_astore_n K 1 dL_law_7 rfl (by decide) ?_
    refine jNew K 20 0 dL_law_8 rfl (by decide) cl_L_130 in_X6 ii_X6 (by decide +kernel) rfl rfl (by decide) (by decide) ?_
    refine j_dup K dL_law_11 rfl ?_
    refine j_cI K dL_law_12 m_X6_init i_X6_init k_L_132 rfl (c_X6_init rfl rfl rfl rfl rfl rfl rfl rfl rfl rfl rfl rfl rfl rfl rfl rfl rfl rfl rfl rfl rfl rfl rfl rfl rfl rfl rfl rfl rfl rfl rfl rfl rfl rfl rfl rfl rfl rfl rfl rfl rfl rfl rfl rfl rfl rfl rfl) rfl rfl (by simp [Value.category]) ⟨(by show _ ≤ 14; decide), (by show _ ≤ 518; decide)⟩ (by decide) (by decide) ?_
    refine j_astore_n K 2 dL_law_15 rfl (by decide) ?_
    refine j_iconst K 1 dL_law_16 rfl ?_
    refine jNewl K (n := 1) 60 0 dL_law_17 rfl rfl ac_long rfl rfl (by decide) (by decide) (by decide) ?_
    refine j_astore_n K 3 dL_law_19 rfl (by decide) ?_
    refine j_iconst K (nI 0) dL_law_20 rfl ?_
    refine j_istore K dL_law_21 (by decide) ?_
    refine j_ad (ad' := ad0 z) (M' := jS (z + 37) 0 (clV (v6 (clV (v5b (clV (fun _ _ _ => 0) 0 0) 6 6) 20 0)) 60 0)) (fun H hr => init_end hr) ?_
    exact law_loop K hN hX hend 512 0 (ad0 z) _ 0 0 _ none none _ _ (Nat.zero_le _) (by omega) (by omega) (Inv_init _) (by decide) (by decide)
  rw [lg_entry_eq]
  exact start s.heap [] _ 0 0 (jL_entry (av := [Value.ref b]) (nL := 7) (by simp [Value.category]) (Nat.le_of_ble_eq_true rfl)) rep_0 va_S.rf (Nat.le_of_ble_eq_true rfl) (Nat.le_of_ble_eq_true rfl)
