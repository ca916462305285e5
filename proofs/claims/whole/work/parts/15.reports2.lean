/-- the reports for the pier i are c in number, of fishermen that exist -/
def RI (V : jV) (i c : Nat) : Prop := V 11 i 3 = nI c ∧ c ≤ 6 ∧ ∀ j, j < c → ∃ f, f < 6 ∧ V 12 i j = nI f
theorem RI_up {V : jV} {i c k a b : Nat} {x : Int32} (h : RI V i c) (h1 : k ≠ 11) (h2 : k ≠ 12) : RI (up V k a b x) i c := by
  obtain ⟨e1, e2, e3⟩ := h
  refine ⟨?_, e2, fun j hj => ?_⟩
  · unfold up; rw [if_neg fun q => h1 q.1.symm]; exact e1
  · unfold up; rw [if_neg fun q => h2 q.1.symm]; exact e3 j hj
theorem RI_rem {V : jV} {i c g : Nat} (h : RI V i c) (hg : g < c) : RI (remV V i g) i (c - 1) := by
  obtain ⟨e1, e2, e3⟩ := h
  refine ⟨?_, by omega, fun j hj => ?_⟩
  · have : remV V i g 11 i 3 = V 11 i 3 - 1 := by simp [remV, up]
    rw [this, e1]; exact pk_sub (b := 1) (by omega)
  · have : remV V i g 12 i j = if g ≤ j ∧ j < tn (V 11 i 3) - 1 then V 12 i (j + 1) else V 12 i j := by simp [remV, up, shV]
    rw [this]
    split
    · exact e3 (j + 1) (by omega)
    · exact e3 j (by omega)
def absI (x : Int32) : Int32 := if 0 ≤ x then x else 0 - x
def cmpV1 (V : jV) (i j : Nat) (mm : Int32) : jV := up V 2 0 (tn (V 12 i j)) (jdg (V 2 0 (tn (V 12 i j))) (absI (V 13 i j - mm)))
/-- the first j reports held against an observation, from the last to the first -/
def cmpV (i : Nat) (mm : Int32) : Nat → jV → Int32 → jV × Int32
  | 0, V, x => (V, x)
  | j + 1, V, x => if 30 < absI (V 13 i j - mm) then cmpV i mm j (remV (cmpV1 V i j mm) i j) (x + 1) else cmpV i mm j (cmpV1 V i j mm) x
set_option maxRecDepth 20000 in
set_option maxHeartbeats 400000 in
theorem c_X2_compareWith {l : Launch} {D : va_G} {ca : Nat → ClassId} {q0 : Nat} {sa : Nat → Nat} {ad : jAd} {z n i : Nat} {V : jV} {cnt : Nat} (mm : Int32) (hl : decide (i < n) = true) (hR : RI V i cnt) : jMet l D ca q0 sa ad yX2_compareWith cX2_compareWith 5 (some .int) 1 0 0 [.ref (ad 11 i), .int mm] (jS z n V) (jRet (some (.int (cmpV i mm cnt V 0).2)) (jS z n (cmpV i mm cnt V 0).1)) := by
  refine j_enter RX2 [some (.ref (ad 11 i)), some (.int mm), none, none, none] rfl (by decide) (by simp [Value.category]) (Nat.le_of_ble_eq_true rfl) rfl ?_
  intro p e s m args below meth c K hnm hX
  have lp : ∀ (j : Nat) (U : jV) (x : Int32) (w4 : Option Value) (q : Nat), RI U i q → j ≤ q → cmpV i mm j U x = cmpV i mm cnt V 0 → jW p l e (jRm 1 0 0) s m args below meth c D ca q0 ad 5 (jZ below args s D ca q0 ad 0 0 (jRet (some (.int (cmpV i mm cnt V 0).2)) (jS z n (cmpV i mm cnt V 0).1))) 0 0 9 [some (.ref (ad 11 i)), some (.int mm), some (.int x), some (.int (nI j - 1)), w4] [] (jS z n U) := by
    intro j
    induction j with
    | zero =>
      intro U x w4 q hq hjq hE
      refine j_iload_n K 3 dX2_compareWith_9 rfl rfl ?_
      refine j_if_lt K 59 dX2_compareWith_10 (by decide) (fun h_10 => ?_) (fun h_10 => ?_)
      · refine j_iload_n K 2 dX2_compareWith_59 rfl rfl ?_
        refine j_iret K dX2_compareWith_60 ?_
        rw [← hE]; exact ⟨rfl, rfl⟩
      · exact absurd (show nI 0 - 1 < 0 by decide) h_10
    | succ j ih =>
      intro U x w4 q hq hjq hE
      rw [nI_pred]
      have hfj := tn_of (b := 6) (by decide) (hq.2.2 j (by omega))
      have h6 := hq.2.1
      have hR1 : RI (cmpV1 U i j mm) i q := RI_up hq (by decide) (by decide)
      refine j_iload_n K 3 dX2_compareWith_9 rfl rfl ?_
      refine j_if_lt K 59 dX2_compareWith_10 (by decide) (fun h_10 => ?_) (fun h_10 => ?_)
      · exact absurd h_10 (nI_pos (by omega))
      · refine j_aload_n K 0 dX2_compareWith_13 rfl rfl ?_
        refine jGr K 13 i dX2_compareWith_14 f_X2_15 rfl hl rfl rfl ?_
        refine j_iload_n K 3 dX2_compareWith_17 rfl rfl ?_
        refine jIald K (j) dX2_compareWith_18 rfl hl rfl (by omega) ?_
        refine j_iload_n K 1 dX2_compareWith_19 rfl rfl ?_
        refine j_isub K dX2_compareWith_20 ?_
        refine j_mabs K dX2_compareWith_21 k_X2_32 (Nat.le_of_ble_eq_true rfl) ⟨by decide, by decide⟩ ?_
        refine j_istore K dX2_compareWith_24 (by decide) ?_
        refine j_aload_n K 0 dX2_compareWith_26 rfl rfl ?_
        refine j_aload_n K 0 dX2_compareWith_27 rfl rfl ?_
        refine jGr K 12 i dX2_compareWith_28 f_X2_9 rfl hl rfl rfl ?_
        refine j_iload_n K 3 dX2_compareWith_31 rfl rfl ?_
        refine jIald K (j) dX2_compareWith_32 rfl hl rfl (by omega) ?_
        refine j_iload K dX2_compareWith_33 rfl ?_
        refine j_cV2n K dX2_compareWith_35 m_X2_judge v_X2_judge k_X2_37 rfl ⟨by decide, rfl⟩ hl (c_X2_judge (tn (U 12 i j)) _ _ hl hfj.1 hfj.2) (Nat.le_of_ble_eq_true rfl) ⟨by decide, by decide⟩ (by decide) (by decide) ?_
        refine j_iload K dX2_compareWith_38 rfl ?_
        refine j_bipush K 30 dX2_compareWith_40 rfl ?_
        refine j_icmp_le K 53 dX2_compareWith_42 (by decide) (fun h_42 => ?_) (fun h_42 => ?_)
        · refine j_iinc (v := nI (j) - 1) K dX2_compareWith_53 rfl (by decide) (jx_dec _) ?_
          refine j_goto K 9 dX2_compareWith_56 (by decide) ?_
          first
          | (have h9 : absI (U 13 i j - mm) ≤ 30 := h_42
             exact ih (cmpV1 U i j mm) x _ q hR1 (by omega) (by rw [← hE, cmpV, if_neg (Int32.not_lt.mpr h9)]))
          | (have h9 : ¬ absI (U 13 i j - mm) ≤ 30 := h_42
             exact ih (remV (cmpV1 U i j mm) i j) (x + 1) _ (q - 1) (RI_rem hR1 (by omega)) (by omega) (by rw [← hE, cmpV, if_pos (Int32.not_le.mp h9)]))
        · refine j_aload_n K 0 dX2_compareWith_45 rfl rfl ?_
          refine j_iload_n K 3 dX2_compareWith_46 rfl rfl ?_
          refine j_cV1n K dX2_compareWith_47 m_X2_removeAt v_X2_removeAt k_X2_41 rfl ⟨by decide, rfl⟩ hl (c_X2_removeAt j hl hR1.1 hR1.2.1 (by omega)) (Nat.le_of_ble_eq_true rfl) ⟨by decide, by decide⟩ (by decide) (by decide) ?_
          refine j_iinc K dX2_compareWith_50 rfl (by decide) rfl ?_
          refine j_iinc (v := nI (j) - 1) K dX2_compareWith_53 rfl (by decide) (jx_dec _) ?_
          refine j_goto K 9 dX2_compareWith_56 (by decide) ?_
          first
          | (have h9 : absI (U 13 i j - mm) ≤ 30 := h_42
             exact ih (cmpV1 U i j mm) x _ q hR1 (by omega) (by rw [← hE, cmpV, if_neg (Int32.not_lt.mpr h9)]))
          | (have h9 : ¬ absI (U 13 i j - mm) ≤ 30 := h_42
             exact ih (remV (cmpV1 U i j mm) i j) (x + 1) _ (q - 1) (RI_rem hR1 (by omega)) (by omega) (by rw [← hE, cmpV, if_pos (Int32.not_le.mp h9)]))
  refine j_iconst K 0 dX2_compareWith_0 rfl ?_
  refine j_istore_n K 2 dX2_compareWith_1 rfl (by decide) ?_
  refine j_aload_n K 0 dX2_compareWith_2 rfl rfl ?_
  refine jGi K dX2_compareWith_3 f_X2_21 rfl hl rfl ?_
  refine j_iconst K 1 dX2_compareWith_6 rfl ?_
  refine j_isub K dX2_compareWith_7 ?_
  rw [show V 11 i 3 - 1 = nI cnt - 1 by rw [hR.1]]
  refine j_istore_n K 3 dX2_compareWith_8 rfl (by decide) ?_
  exact lp cnt V 0 none cnt hR (Nat.le_refl _) rfl
/-- the first j reports d days older, the old ones away -/
def grwV (i : Nat) (d : Int32) : Nat → jV → jV
  | 0, V => V
  | j + 1, V => if V 14 i j + d < 10 then grwV i d j (up V 14 i j (V 14 i j + d)) else grwV i d j (remV (up V 14 i j (V 14 i j + d)) i j)
set_option maxRecDepth 20000 in
set_option maxHeartbeats 400000 in
theorem c_X2_growOlder {l : Launch} {D : va_G} {ca : Nat → ClassId} {q0 : Nat} {sa : Nat → Nat} {ad : jAd} {z n i : Nat} {V : jV} {cnt : Nat} (d : Int32) (hl : decide (i < n) = true) (hR : RI V i cnt) : jMet l D ca q0 sa ad yX2_growOlder cX2_growOlder 3 none 1 0 0 [.ref (ad 11 i), .int d] (jS z n V) (jRet none (jS z n (grwV i d cnt V))) := by
  refine j_enter RX2 [some (.ref (ad 11 i)), some (.int d), none] rfl (by decide) (by simp [Value.category]) (Nat.le_of_ble_eq_true rfl) rfl ?_
  intro p e s m args below meth c K hnm hX
  have lp : ∀ (j : Nat) (U : jV) (q : Nat), RI U i q → j ≤ q → grwV i d j U = grwV i d cnt V → jW p l e (jRm 1 0 0) s m args below meth c D ca q0 ad 3 (jZ below args s D ca q0 ad 0 0 (jRet none (jS z n (grwV i d cnt V)))) 0 0 7 [some (.ref (ad 11 i)), some (.int d), some (.int (nI j - 1))] [] (jS z n U) := by
    intro j
    induction j with
    | zero =>
      intro U q hq hjq hE
      refine j_iload_n K 2 dX2_growOlder_7 rfl rfl ?_
      refine j_if_lt K 43 dX2_growOlder_8 (by decide) (fun h_8 => ?_) (fun h_8 => ?_)
      · refine j_vret K dX2_growOlder_43 ?_
        rw [← hE]; exact ⟨rfl, rfl⟩
      · exact absurd (show nI 0 - 1 < 0 by decide) h_8
    | succ j ih =>
      intro U q hq hjq hE
      rw [nI_pred]
      have h6 := hq.2.1
      have hR1 : RI (up U 14 i j (U 14 i j + d)) i q := RI_up hq (by decide) (by decide)
      have ha : up U 14 i j (U 14 i j + d) 14 i j = U 14 i j + d := by simp [up]
      refine j_iload_n K 2 dX2_growOlder_7 rfl rfl ?_
      refine j_if_lt K 43 dX2_growOlder_8 (by decide) (fun h_8 => ?_) (fun h_8 => ?_)
      · exact absurd h_8 (nI_pos (by omega))
      · refine j_aload_n K 0 dX2_growOlder_11 rfl rfl ?_
        refine jGr K 14 i dX2_growOlder_12 f_X2_18 rfl hl rfl rfl ?_
        refine j_iload_n K 2 dX2_growOlder_15 rfl rfl ?_
        refine j_dup2 K dX2_growOlder_16 rfl rfl ?_
        refine jIald K (j) dX2_growOlder_17 rfl hl rfl (by omega) ?_
        refine j_iload_n K 1 dX2_growOlder_18 rfl rfl ?_
        refine j_iadd K dX2_growOlder_19 ?_
        refine jIast K (j) dX2_growOlder_20 rfl hl rfl (by omega) ?_
        refine j_aload_n K 0 dX2_growOlder_21 rfl rfl ?_
        refine jGr K 14 i dX2_growOlder_22 f_X2_18 rfl hl rfl rfl ?_
        refine j_iload_n K 2 dX2_growOlder_25 rfl rfl ?_
        refine jIald K (j) dX2_growOlder_26 rfl hl rfl (by omega) ?_
        refine j_bipush K 10 dX2_growOlder_27 rfl ?_
        refine j_icmp_lt K 37 dX2_growOlder_29 (by decide) (fun h_29 => ?_) (fun h_29 => ?_)
        · refine j_iinc (v := nI (j) - 1) K dX2_growOlder_37 rfl (by decide) (jx_dec _) ?_
          refine j_goto K 7 dX2_growOlder_40 (by decide) ?_
          first
          | exact ih (up U 14 i j (U 14 i j + d)) q hR1 (by omega) (by rw [← hE, grwV, if_pos (ha ▸ h_29)])
          | exact ih (remV (up U 14 i j (U 14 i j + d)) i j) (q - 1) (RI_rem hR1 (by omega)) (by omega) (by rw [← hE, grwV, if_neg (ha ▸ h_29)])
        · refine j_aload_n K 0 dX2_growOlder_32 rfl rfl ?_
          refine j_iload_n K 2 dX2_growOlder_33 rfl rfl ?_
          refine j_cV1n K dX2_growOlder_34 m_X2_removeAt v_X2_removeAt k_X2_41 rfl ⟨by decide, rfl⟩ hl (c_X2_removeAt j hl hR1.1 hR1.2.1 (by omega)) (Nat.le_of_ble_eq_true rfl) ⟨by decide, by decide⟩ (by decide) (by decide) ?_
          refine j_iinc (v := nI (j) - 1) K dX2_growOlder_37 rfl (by decide) (jx_dec _) ?_
          refine j_goto K 7 dX2_growOlder_40 (by decide) ?_
          first
          | exact ih (up U 14 i j (U 14 i j + d)) q hR1 (by omega) (by rw [← hE, grwV, if_pos (ha ▸ h_29)])
          | exact ih (remV (up U 14 i j (U 14 i j + d)) i j) (q - 1) (RI_rem hR1 (by omega)) (by omega) (by rw [← hE, grwV, if_neg (ha ▸ h_29)])
  refine j_aload_n K 0 dX2_growOlder_0 rfl rfl ?_
  refine jGi K dX2_growOlder_1 f_X2_21 rfl hl rfl ?_
  refine j_iconst K 1 dX2_growOlder_4 rfl ?_
  refine j_isub K dX2_growOlder_5 ?_
  rw [show V 11 i 3 - 1 = nI cnt - 1 by rw [hR.1]]
  refine j_istore_n K 2 dX2_growOlder_6 rfl (by decide) ?_
  exact lp cnt V cnt hR (Nat.le_refl _) rfl
