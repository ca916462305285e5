theorem rem_other {V : jV} {i g k a j : Nat} (h : a ≠ i ∨ (k ≠ 11 ∧ k ≠ 12 ∧ k ≠ 13 ∧ k ≠ 14)) : remV V i g k a j = V k a j := by
  unfold remV up shV
  grind
theorem grw_other {i : Nat} {d : Int32} {k a b : Nat} (h : a ≠ i ∨ (k ≠ 11 ∧ k ≠ 12 ∧ k ≠ 13 ∧ k ≠ 14)) : ∀ (j : Nat) (V : jV), grwV i d j V k a b = V k a b
  | 0, V => rfl
  | j + 1, V => by
    have h1 : up V 14 i j (V 14 i j + d) k a b = V k a b := by unfold up; grind
    unfold grwV
    split
    · rw [grw_other h j _, h1]
    · rw [grw_other h j _, rem_other h, h1]
theorem grw_RI {i : Nat} {d : Int32} : ∀ (j q : Nat) (V : jV), RI V i q → j ≤ q → ∃ q', RI (grwV i d j V) i q'
  | 0, q, V, h, _ => ⟨q, h⟩
  | j + 1, q, V, h, hj => by
    have h1 : RI (up V 14 i j (V 14 i j + d)) i q := RI_up h (by decide) (by decide)
    unfold grwV
    split
    · exact grw_RI j q _ h1 (by omega)
    · exact grw_RI j (q - 1) _ (RI_rem h1 (by omega)) (by omega)
theorem XI_grw {n i : Nat} {d : Int32} {V : jV} (h : XI n V) (hi : i < n) : XI n (grwV i d (tn (V 11 i 3)) V) := by
  obtain ⟨q', hq⟩ := grw_RI (d := d) (tn (V 11 i 3)) _ V (h.2.2.1 i hi) (Nat.le_refl _)
  exact XI_rep h (fun k a j hk => grw_other (by omega) _ _) hq
theorem fad_other {V : jV} {i c0 k a j : Nat} {d : Int32} (h : k ≠ 16) : fadV V i d c0 k a j = V k a j := by
  unfold fadV; rw [if_neg fun q => h q.1]
theorem XI_fad {n i c0 : Nat} {d : Int32} {V : jV} (h : XI n V) : XI n (fadV V i d c0) := XI_congr h (fun k a j hk => fad_other (by omega))
/-- days pass for the pier j -/
def pdS (V : jV) (d : Int32) (j : Nat) : jV := fadV (grwV j d (tn (V 11 j 3)) V) j (V 0 0 7) (tn (V 6 j 3))
def pdV (d : Int32) : Nat → jV → jV
  | 0, V => V
  | j + 1, V => pdS (pdV d j V) d j
theorem XI_pd {n : Nat} {d : Int32} {V : jV} (h : XI n V) : ∀ j, j ≤ n → XI n (pdV d j V)
  | 0, _ => h
  | j + 1, hj => XI_fad (XI_grw (XI_pd h j (by omega)) (by omega))
theorem XI_today {n : Nat} {x : Int32} {V : jV} (h : XI n V) : XI n (up V 0 0 7 x) := XI_congr h (fun k a j hk => by unfold up; rw [if_neg (by omega)])
set_option maxRecDepth 20000 in
set_option maxHeartbeats 400000 in
theorem c_passDays {l : Launch} {D : va_G} {ca : Nat → ClassId} {q0 : Nat} {sa : Nat → Nat} {ad : jAd} {z n : Nat} {V : jV} (d : Int32) (hI : XI n V) (hd : 1 ≤ d ∧ d ≤ 60) : jMet l D ca q0 sa ad yX5_passDays cX5_passDays 3 (some .int) 3 0 0 [.ref (ad 0 0), .int d] (jS z n V) (jRet (some (.int ((pdV d n (up V 0 0 7 (V 0 0 7 + d))) 0 0 7))) (jS z n (pdV d n (up V 0 0 7 (V 0 0 7 + d))))) := by
  refine j_enter RX5 [some (.ref (ad 0 0)), some (.int d), none] rfl (by decide) (by simp [Value.category]) (Nat.le_of_ble_eq_true rfl) rfl ?_
  intro p e s m args below meth c K hnm hX
  have hn6 := hI.1
  have lp : ∀ (k j : Nat) , j ≤ n → n < j + k → jW p l e (jRm 3 0 0) s m args below meth c D ca q0 ad 3 (jZ below args s D ca q0 ad 0 0 (jRet (some (.int ((pdV d n (up V 0 0 7 (V 0 0 7 + d))) 0 0 7))) (jS z n (pdV d n (up V 0 0 7 (V 0 0 7 + d)))))) 0 0 19 [some (.ref (ad 0 0)), some (.int d), some (.int (nI j))] [] (jS z n (pdV d j (up V 0 0 7 (V 0 0 7 + d)))) := by
    intro k
    induction k with
    | zero => intro j  hj1 hj2; exact absurd hj2 (by omega)
    | succ k ih =>
      intro j  hj1 hj2 
      have hU := XI_pd (d := d) (XI_today (x := V 0 0 7 + d) hI) j hj1
      refine j_iload_n K 2 dX5_passDays_19 rfl rfl ?_
      refine j_aload_n K 0 dX5_passDays_20 rfl rfl ?_
      refine jGi K dX5_passDays_21 f_X5_15 rfl rfl rfl ?_
      refine j_icmp_ge K 62 dX5_passDays_24 (by decide) (fun h_24 => ?_) (fun h_24 => ?_)
      · have hj9 := nle1 h_24 hU.2.1 rfl (by omega) (by omega)
        have hj : j = n := by omega
        subst hj
        refine j_aload_n K 0 dX5_passDays_62 rfl rfl ?_
        refine jGi K dX5_passDays_63 f_X5_43 rfl rfl rfl ?_
        refine j_iret K dX5_passDays_66 ?_
        exact ⟨rfl, rfl⟩
      · have hj3 : j < n := nle0 h_24 hU.2.1 rfl (by omega) (by omega)
        have hl : decide (j < n) = true := decide_eq_true hj3
        have ht : LV n 6 j = true := lv_pier hj3
        obtain ⟨hw, hw4⟩ := hU.2.2.2.1 j hj3
        have hw9 : grwV j d (tn ((pdV d j (up V 0 0 7 (V 0 0 7 + d))) 11 j 3)) (pdV d j (up V 0 0 7 (V 0 0 7 + d))) 6 j 3 = nI (tn ((pdV d j (up V 0 0 7 (V 0 0 7 + d))) 6 j 3)) := by rw [grw_other (by simp)]; exact hw
        refine j_aload_n K 0 dX5_passDays_27 rfl rfl ?_
        refine jGr K 1 0 dX5_passDays_28 f_X5_11 rfl rfl rfl rfl ?_
        refine j_iload_n K 2 dX5_passDays_31 rfl rfl ?_
        refine jAald K (j) 10 (j) dX5_passDays_32 rfl rfl rfl (by omega) (rf_pier (by omega)) ?_
        refine jGr K 11 j dX5_passDays_33 f_X5_69 rfl hl rfl rfl ?_
        refine j_iload_n K 1 dX5_passDays_36 rfl rfl ?_
        refine j_cV1n K dX5_passDays_37 m_X2_growOlder v_X2_growOlder k_X5_73 rfl ⟨by decide, rfl⟩ hl (c_X2_growOlder d hl (hU.2.2.1 j hj3)) (Nat.le_of_ble_eq_true rfl) ⟨by decide, by decide⟩ (by decide) (by decide) ?_
        refine j_aload_n K 0 dX5_passDays_40 rfl rfl ?_
        refine jGr K 1 0 dX5_passDays_41 f_X5_11 rfl rfl rfl rfl ?_
        refine j_iload_n K 2 dX5_passDays_44 rfl rfl ?_
        refine jAald K (j) 10 (j) dX5_passDays_45 rfl rfl rfl (by omega) (rf_pier (by omega)) ?_
        refine jGr K 15 j dX5_passDays_46 f_X5_79 rfl hl rfl rfl ?_
        refine j_aload_n K 0 dX5_passDays_49 rfl rfl ?_
        refine jGi K dX5_passDays_50 f_X5_43 rfl rfl rfl ?_
        refine j_cV1n K dX5_passDays_53 m_X0_fadeOldLines v_X0_fadeOldLines k_X5_83 rfl ⟨by decide, rfl⟩ hl (c_X0_fadeOldLines _ hl ht hw9 hw4) (Nat.le_of_ble_eq_true rfl) ⟨by decide, by decide⟩ (by decide) (by decide) ?_
        refine j_iinc (v := nI (j + 1)) K dX5_passDays_56 rfl (by decide) (nI_1 _) ?_
        refine j_goto K 19 dX5_passDays_59 (by decide) ?_
        refine j_eqV (V' := pdV d (j + 1) (up V 0 0 7 (V 0 0 7 + d))) (fun a b e => ?_) (ih (j + 1) (by omega) (by omega))
        show fadV (grwV j d (tn ((pdV d j (up V 0 0 7 (V 0 0 7 + d))) 11 j 3)) (pdV d j (up V 0 0 7 (V 0 0 7 + d)))) j (grwV j d (tn ((pdV d j (up V 0 0 7 (V 0 0 7 + d))) 11 j 3)) (pdV d j (up V 0 0 7 (V 0 0 7 + d))) 0 0 7) (tn ((pdV d j (up V 0 0 7 (V 0 0 7 + d))) 6 j 3)) a b e = _
        rw [grw_other (k := 0) (by simp)]
        rfl
  refine j_iload_n K 1 dX5_passDays_0 rfl rfl ?_
  refine j_iconst K 1 dX5_passDays_1 rfl ?_
  refine j_bipush K 60 dX5_passDays_2 rfl ?_
  refine j_cS3n K dX5_passDays_4 m_X5_demandWithin s_X5_demandWithin k_X5_55 (c_dW _ _ _ hd) (Nat.le_of_ble_eq_true rfl) ⟨by decide, by decide⟩ (by decide) (by decide) ?_
  refine j_aload_n K 0 dX5_passDays_7 rfl rfl ?_
  refine j_dup K dX5_passDays_8 rfl ?_
  refine jGi K dX5_passDays_9 f_X5_43 rfl rfl rfl ?_
  refine j_iload_n K 1 dX5_passDays_12 rfl rfl ?_
  refine j_iadd K dX5_passDays_13 ?_
  refine jPi K dX5_passDays_14 fo_X5_43 rfl rfl rfl rfl (Or.inl rfl) ?_
  refine j_iconst K 0 dX5_passDays_17 rfl ?_
  refine j_istore_n K 2 dX5_passDays_18 rfl (by decide) ?_
  exact lp (n + 1) 0 (by omega) (by omega)
set_option maxRecDepth 20000 in
set_option maxHeartbeats 400000 in
theorem c_passDaysx {l : Launch} {D : va_G} {ca : Nat → ClassId} {q0 : Nat} {sa : Nat → Nat} {ad : jAd} {z n : Nat} {V : jV} (d : Int32) (h : ¬ (1 ≤ d ∧ d ≤ 60)) : jMet l D ca q0 sa ad yX5_passDays cX5_passDays 3 (some .int) 3 1 6 [.ref (ad 0 0), .int d] (jS z n V) (jExc "java/lang/IllegalArgumentException" (jS z n V)) := by
  refine j_enter RX5 [some (.ref (ad 0 0)), some (.int d), none] rfl (by decide) (by simp [Value.category]) (Nat.le_of_ble_eq_true rfl) rfl ?_
  intro p e s m args below meth c K hnm hX
  refine j_iload_n K 1 dX5_passDays_0 rfl rfl ?_
  refine j_iconst K 1 dX5_passDays_1 rfl ?_
  refine j_bipush K 60 dX5_passDays_2 rfl ?_
  exact j_cS3x K dX5_passDays_4 m_X5_demandWithin s_X5_demandWithin k_X5_55 (c_dWx _ _ _ h) (Nat.le_of_ble_eq_true rfl) ⟨by decide, by decide⟩ (by decide) (by decide) hX (fun _ => ⟨rfl, rfl⟩)
def rbV : Nat → jV → jV × Int32
  | 0, V => (V, 0)
  | j + 1, V => (shwV (rbV j V).1 j, if shwB (rbV j V).1 j = 0 then (rbV j V).2 else (rbV j V).2 ||| (1 <<< (nI j &&& 31)))
theorem XI_shw {n a : Nat} {V : jV} (h : XI n V) : XI n (shwV V a) := by
  unfold shwV; split
  · exact XI_fil6 h
  · exact h
theorem XI_rb {n : Nat} {V : jV} (h : XI n V) : ∀ j, XI n (rbV j V).1
  | 0 => h
  | j + 1 => XI_shw (XI_rb h j)
set_option maxRecDepth 20000 in
set_option maxHeartbeats 400000 in
theorem c_rightBoards {l : Launch} {D : va_G} {ca : Nat → ClassId} {q0 : Nat} {sa : Nat → Nat} {ad : jAd} {z n : Nat} {V : jV}  (hI : XI n V)  : jMet l D ca q0 sa ad yX5_rightBoards cX5_rightBoards 3 (some .int) 4 0 0 [.ref (ad 0 0)] (jS z n V) (jRet (some (.int (rbV n V).2)) (jS z n (rbV n V).1)) := by
  refine j_enter RX5 [some (.ref (ad 0 0)), none, none] rfl (by decide) (by simp [Value.category]) (Nat.le_of_ble_eq_true rfl) rfl ?_
  intro p e s m args below meth c K hnm hX
  have hn6 := hI.1
  have lp : ∀ (k j : Nat) , j ≤ n → n < j + k → jW p l e (jRm 4 0 0) s m args below meth c D ca q0 ad 3 (jZ below args s D ca q0 ad 0 0 (jRet (some (.int (rbV n V).2)) (jS z n (rbV n V).1))) 0 0 4 [some (.ref (ad 0 0)), some (.int (rbV j V).2), some (.int (nI j))] [] (jS z n (rbV j V).1) := by
    intro k
    induction k with
    | zero => intro j  hj1 hj2; exact absurd hj2 (by omega)
    | succ k ih =>
      intro j  hj1 hj2 
      have hU := XI_rb hI j
      refine j_iload_n K 2 dX5_rightBoards_4 rfl rfl ?_
      refine j_aload_n K 0 dX5_rightBoards_5 rfl rfl ?_
      refine jGi K dX5_rightBoards_6 f_X5_15 rfl rfl rfl ?_
      refine j_icmp_ge K 37 dX5_rightBoards_9 (by decide) (fun h_9 => ?_) (fun h_9 => ?_)
      · have hj9 := nle1 h_9 hU.2.1 rfl (by omega) (by omega)
        have hj : j = n := by omega
        subst hj
        refine j_iload_n K 1 dX5_rightBoards_37 rfl rfl ?_
        refine j_iret K dX5_rightBoards_38 ?_
        exact ⟨rfl, rfl⟩
      · have hj3 : j < n := nle0 h_9 hU.2.1 rfl (by omega) (by omega)
        refine j_aload_n K 0 dX5_rightBoards_12 rfl rfl ?_
        refine j_aload_n K 0 dX5_rightBoards_13 rfl rfl ?_
        refine jGr K 1 0 dX5_rightBoards_14 f_X5_11 rfl rfl rfl rfl ?_
        refine j_iload_n K 2 dX5_rightBoards_17 rfl rfl ?_
        refine jAald K (j) 10 (j) dX5_rightBoards_18 rfl rfl rfl (by omega) (rf_pier (by omega)) ?_
        refine j_cV1r K dX5_rightBoards_19 m_X5_showsThisDay v_X5_showsThisDay k_X5_247 rfl ⟨by decide, rfl⟩ rfl (c_X5_showsThisDay hU hj3) (Nat.le_of_ble_eq_true rfl) ⟨by decide, by decide⟩ (by decide) (by decide) ?_
        refine j_if_eq K 31 dX5_rightBoards_22 (by decide) (fun h_22 => ?_) (fun h_22 => ?_)
        · refine j_iinc (v := nI (j + 1)) K dX5_rightBoards_31 rfl (by decide) (nI_1 _) ?_
          refine j_goto K 4 dX5_rightBoards_34 (by decide) ?_
          have hb9 : (rbV (j + 1) V).2 = (rbV j V).2 := by rw [rbV, if_pos h_22]
          have h9 := ih (j + 1) (by omega) (by omega)
          rw [hb9] at h9
          exact h9
        · refine j_iload_n K 1 dX5_rightBoards_25 rfl rfl ?_
          refine j_iconst K 1 dX5_rightBoards_26 rfl ?_
          refine j_iload_n K 2 dX5_rightBoards_27 rfl rfl ?_
          refine j_ishl K dX5_rightBoards_28 ?_
          refine j_ior K dX5_rightBoards_29 ?_
          refine j_istore_n K 1 dX5_rightBoards_30 rfl (by decide) ?_
          refine j_iinc (v := nI (j + 1)) K dX5_rightBoards_31 rfl (by decide) (nI_1 _) ?_
          refine j_goto K 4 dX5_rightBoards_34 (by decide) ?_
          have hb9 : (rbV (j + 1) V).2 = (rbV j V).2 ||| (1 <<< (nI j &&& 31)) := by rw [rbV, if_neg h_22]
          have h9 := ih (j + 1) (by omega) (by omega)
          rw [hb9] at h9
          exact h9
  refine j_iconst K 0 dX5_rightBoards_0 rfl ?_
  refine j_istore_n K 1 dX5_rightBoards_1 rfl (by decide) ?_
  refine j_iconst K 0 dX5_rightBoards_2 rfl ?_
  refine j_istore_n K 2 dX5_rightBoards_3 rfl (by decide) ?_
  exact lp (n + 1) 0 (by omega) (by omega)
