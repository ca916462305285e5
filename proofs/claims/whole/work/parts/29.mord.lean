theorem obf_y {o r : Nat → Int32} {b j : Nat} (h : ¬ o j = -1) (h' : ahd o r j b = true) : obf o r b (j + 1) = obf o r b j + 1 := by rw [obf, if_pos ⟨h, h'⟩]
theorem obf_n {o r : Nat → Int32} {b j : Nat} (h : o j = -1 ∨ ahd o r j b = false) : obf o r b (j + 1) = obf o r b j := by
  rw [obf, if_neg]
  rintro ⟨h1, h2⟩
  rcases h with h | h
  · exact h1 h
  · rw [h] at h2; exact absurd h2 (by decide)
theorem ahd_self {o r : Nat → Int32} {b : Nat} : ahd o r b b = false := by unfold ahd; rw [if_pos rfl, if_pos rfl]; exact decide_eq_false (Nat.lt_irrefl b)
theorem bI_0 {b : Bool} (h : bI b = 0) : b = false := by cases b; rfl; exact absurd h (by decide)
theorem bI_1 {b : Bool} (h : ¬ bI b = 0) : b = true := by cases b; exact absurd rfl h; rfl
theorem j0 {x : Int32} {u : Nat} (h : x = nI u) : x + 0 = nI u := by rw [h]; exact jx_add (b := 0) rfl rfl
theorem j1 {x : Int32} {u : Nat} (h : x = nI u) : x + 1 = nI (u + 1) := by rw [h]; exact jx_add (b := 1) rfl rfl
def blY (V : jV) (a : Nat) : Nat → jV
  | 0 => V
  | j + 1 => if V 48 0 (4 * a + j) = 1 then up V 48 0 (4 * a + j) 2 else blY V a j
def drpY (V : jV) (a c4 : Nat) : jV :=
  if V 44 0 a + V 28 0 a < 12 then up (up V 20 0 16 (V 20 0 16 + V 28 0 a)) 44 0 a (V 44 0 a + V 28 0 a)
  else blY (up (up (up V 20 0 16 (V 20 0 16 + V 28 0 a)) 44 0 a (V 44 0 a + V 28 0 a)) 44 0 a (V 44 0 a + V 28 0 a - 12)) a c4
def mrdY (V : jV) (u : Nat) : jV := up (up (up V 20 0 15 (V 20 0 15 + 5)) 48 0 u 1) 49 0 u (V 20 0 2)
def umY (V : jV) (a : Nat) : Nat → Int32
  | 0 => 0
  | j + 1 => if V 48 0 (4 * a + j) = 1 then umY V a j else umY V a j ||| (1 <<< (nI j &&& 31))
set_option maxRecDepth 20000 in
set_option maxHeartbeats 400000 in
theorem c_Mahead {l : Launch} {D : va_G} {ca : Nat → ClassId} {q0 : Nat} {sa : Nat → Nat} {ad : jAd} {z n a : Nat} {V : jV} (x : Int32) (hn6 : n ≤ 6) (hp : V 20 0 1 = nI n) (ha : a < n) (hx : x = nI a)  : jMet l D ca q0 sa ad yX6_ahead cX6_ahead 4 (some .int) 1 0 0 [.ref (ad 20 0), .int x] (jS z n V) (jRet (some (.int (nI (obf (yo V) (yr V) a n)))) (jS z n V)) := by
  refine j_enter RX6 [some (.ref (ad 20 0)), some (.int x), none, none] rfl (by decide) (by simp [Value.category]) (Nat.le_of_ble_eq_true rfl) rfl ?_
  intro p e s m args below meth c K hnm hX
  have lp : ∀ (k j : Nat) (acc : Int32), j ≤ n → n < j + k → acc = nI (obf (yo V) (yr V) a j) → jW p l e (jRm 1 0 0) s m args below meth c D ca q0 ad 4 (jZ below args s D ca q0 ad 0 0 (jRet (some (.int (nI (obf (yo V) (yr V) a n)))) (jS z n V))) 0 0 4 [some (.ref (ad 20 0)), some (.int x), some (.int acc), some (.int (nI j))] [] (jS z n V) := by
    intro k
    induction k with
    | zero => intro j acc hj1 hj2; exact absurd hj2 (by omega)
    | succ k ih =>
      intro j acc hj1 hj2 hacc
      refine j_iload_n K 3 dX6_ahead_4 rfl rfl ?_
      refine j_aload_n K 0 dX6_ahead_5 rfl rfl ?_
      refine jGi K dX6_ahead_6 f_X6_86 rfl rfl rfl ?_
      refine j_icmp_ge K 50 dX6_ahead_9 (by decide) (fun h_9 => ?_) (fun h_9 => ?_)
      · have hj9 : j = n := by have := nle1 h_9 hp rfl (by omega) (by omega); omega
        subst hj9
        refine j_iload_n K 2 dX6_ahead_50 rfl rfl ?_
        refine j_iret K dX6_ahead_51 ?_
        rw [hacc]
        exact ⟨rfl, rfl⟩
      · have hj3 : j < n := nle0 h_9 hp rfl (by omega) (by omega)
        have hq : nI j = x ↔ j = a := neq (by omega) (by omega) rfl hx
        refine j_iload_n K 2 dX6_ahead_12 rfl rfl ?_
        refine j_iload_n K 3 dX6_ahead_13 rfl rfl ?_
        refine j_iload_n K 1 dX6_ahead_14 rfl rfl ?_
        refine j_icmp_eq K 41 dX6_ahead_15 (by decide) (fun h_15 => ?_) (fun h_15 => ?_)
        · refine j_iconst K 0 dX6_ahead_41 rfl ?_
          refine j_iadd K dX6_ahead_42 ?_
          refine j_istore_n K 2 dX6_ahead_43 rfl (by decide) ?_
          refine j_iinc (v := nI (j + 1)) K dX6_ahead_44 rfl (by decide) (nI_1 _) ?_
          refine j_goto K 4 dX6_ahead_47 (by decide) ?_
          refine ih (j + 1) _ (by omega) (by omega) ?_
          first
          | (rw [obf_y (o := yo V) (j := j) h_25 (bI_1 h_34)]; exact j1 hacc)
          | (rw [obf_n (o := yo V) (j := j) (Or.inr (bI_0 h_34))]; exact j0 hacc)
          | (rw [obf_n (o := yo V) (j := j) (Or.inl h_25)]; exact j0 hacc)
          | (rw [hq] at h_15; rw [h_15, obf_n (o := yo V) (Or.inr ahd_self)]; rw [h_15] at hacc; exact j0 hacc)
        · refine j_aload_n K 0 dX6_ahead_18 rfl rfl ?_
          refine jGr K 39 0 dX6_ahead_19 f_X6_46 rfl rfl rfl rfl ?_
          refine j_iload_n K 3 dX6_ahead_22 rfl rfl ?_
          refine jIald K (j) dX6_ahead_23 rfl rfl rfl (by omega) ?_
          refine j_iconst K (-1) dX6_ahead_24 rfl ?_
          refine j_icmp_eq K 41 dX6_ahead_25 (by decide) (fun h_25 => ?_) (fun h_25 => ?_)
          · refine j_iconst K 0 dX6_ahead_41 rfl ?_
            refine j_iadd K dX6_ahead_42 ?_
            refine j_istore_n K 2 dX6_ahead_43 rfl (by decide) ?_
            refine j_iinc (v := nI (j + 1)) K dX6_ahead_44 rfl (by decide) (nI_1 _) ?_
            refine j_goto K 4 dX6_ahead_47 (by decide) ?_
            refine ih (j + 1) _ (by omega) (by omega) ?_
            first
            | (rw [obf_y (o := yo V) (j := j) h_25 (bI_1 h_34)]; exact j1 hacc)
            | (rw [obf_n (o := yo V) (j := j) (Or.inr (bI_0 h_34))]; exact j0 hacc)
            | (rw [obf_n (o := yo V) (j := j) (Or.inl h_25)]; exact j0 hacc)
            | (rw [hq] at h_15; rw [h_15, obf_n (o := yo V) (Or.inr ahd_self)]; rw [h_15] at hacc; exact j0 hacc)
          · refine j_aload_n K 0 dX6_ahead_28 rfl rfl ?_
            refine j_iload_n K 3 dX6_ahead_29 rfl rfl ?_
            refine j_iload_n K 1 dX6_ahead_30 rfl rfl ?_
            refine j_cV2r K dX6_ahead_31 m_X6_isAhead v_X6_isAhead k_X6_183 rfl ⟨by decide, rfl⟩ rfl (c_Mahd _ _ hn6 hj3 rfl ha hx) (Nat.le_of_ble_eq_true rfl) ⟨by decide, by decide⟩ (by decide) (by decide) ?_
            refine j_if_eq K 41 dX6_ahead_34 (by decide) (fun h_34 => ?_) (fun h_34 => ?_)
            · refine j_iconst K 0 dX6_ahead_41 rfl ?_
              refine j_iadd K dX6_ahead_42 ?_
              refine j_istore_n K 2 dX6_ahead_43 rfl (by decide) ?_
              refine j_iinc (v := nI (j + 1)) K dX6_ahead_44 rfl (by decide) (nI_1 _) ?_
              refine j_goto K 4 dX6_ahead_47 (by decide) ?_
              refine ih (j + 1) _ (by omega) (by omega) ?_
              first
              | (rw [obf_y (o := yo V) (j := j) h_25 (bI_1 h_34)]; exact j1 hacc)
              | (rw [obf_n (o := yo V) (j := j) (Or.inr (bI_0 h_34))]; exact j0 hacc)
              | (rw [obf_n (o := yo V) (j := j) (Or.inl h_25)]; exact j0 hacc)
              | (rw [hq] at h_15; rw [h_15, obf_n (o := yo V) (Or.inr ahd_self)]; rw [h_15] at hacc; exact j0 hacc)
            · refine j_iconst K 1 dX6_ahead_37 rfl ?_
              refine j_goto K 42 dX6_ahead_38 (by decide) ?_
              refine j_iadd K dX6_ahead_42 ?_
              refine j_istore_n K 2 dX6_ahead_43 rfl (by decide) ?_
              refine j_iinc (v := nI (j + 1)) K dX6_ahead_44 rfl (by decide) (nI_1 _) ?_
              refine j_goto K 4 dX6_ahead_47 (by decide) ?_
              refine ih (j + 1) _ (by omega) (by omega) ?_
              first
              | (rw [obf_y (o := yo V) (j := j) h_25 (bI_1 h_34)]; exact j1 hacc)
              | (rw [obf_n (o := yo V) (j := j) (Or.inr (bI_0 h_34))]; exact j0 hacc)
              | (rw [obf_n (o := yo V) (j := j) (Or.inl h_25)]; exact j0 hacc)
              | (rw [hq] at h_15; rw [h_15, obf_n (o := yo V) (Or.inr ahd_self)]; rw [h_15] at hacc; exact j0 hacc)
  refine j_iconst K 0 dX6_ahead_0 rfl ?_
  refine j_istore_n K 2 dX6_ahead_1 rfl (by decide) ?_
  refine j_iconst K 0 dX6_ahead_2 rfl ?_
  refine j_istore_n K 3 dX6_ahead_3 rfl (by decide) ?_
  exact lp (n + 1) 0 _ (by omega) (by omega) rfl
theorem wai_1 {o r : Nat → Int32} {n j : Nat} {x : Int32} (h : o j = -1) : wai o r n x j = false := by unfold wai; simp [h]
theorem wai_2 {o r : Nat → Int32} {n j : Nat} {x : Int32} (h : ¬ nI (obf o r j n) = x) : wai o r n x j = false := by unfold wai; simp [h]
theorem wai_3 {o r : Nat → Int32} {n j : Nat} {x : Int32} (h : ¬ o j = -1) (h' : nI (obf o r j n) = x) : wai o r n x j = true := by unfold wai; simp [h, h']
set_option maxRecDepth 20000 in
set_option maxHeartbeats 400000 in
theorem c_Mwait {l : Launch} {D : va_G} {ca : Nat → ClassId} {q0 : Nat} {sa : Nat → Nat} {ad : jAd} {z n : Nat} {V : jV} (x : Int32) (hn6 : n ≤ 6) (hp : V 20 0 1 = nI n)  : jMet l D ca q0 sa ad yX6_waitingAt cX6_waitingAt 3 (some .int) 2 0 0 [.ref (ad 20 0), .int x] (jS z n V) (jRet (some (.int (fres (wai (yo V) (yr V) n x) n))) (jS z n V)) := by
  refine j_enter RX6 [some (.ref (ad 20 0)), some (.int x), none] rfl (by decide) (by simp [Value.category]) (Nat.le_of_ble_eq_true rfl) rfl ?_
  intro p e s m args below meth c K hnm hX
  have lp : ∀ (k j : Nat) , j ≤ n → n < j + k → (∀ j', j' < j → wai (yo V) (yr V) n x j' = false) → jW p l e (jRm 2 0 0) s m args below meth c D ca q0 ad 3 (jZ below args s D ca q0 ad 0 0 (jRet (some (.int (fres (wai (yo V) (yr V) n x) n))) (jS z n V))) 0 0 2 [some (.ref (ad 20 0)), some (.int x), some (.int (nI j))] [] (jS z n V) := by
    intro k
    induction k with
    | zero => intro j  hj1 hj2; exact absurd hj2 (by omega)
    | succ k ih =>
      intro j  hj1 hj2 hno
      refine j_iload_n K 2 dX6_waitingAt_2 rfl rfl ?_
      refine j_aload_n K 0 dX6_waitingAt_3 rfl rfl ?_
      refine jGi K dX6_waitingAt_4 f_X6_86 rfl rfl rfl ?_
      refine j_icmp_ge K 37 dX6_waitingAt_7 (by decide) (fun h_7 => ?_) (fun h_7 => ?_)
      · have hj : j = n := by have := nle1 h_7 hp rfl (by omega) (by omega); omega
        subst hj
        refine j_iconst K (-1) dX6_waitingAt_37 rfl ?_
        refine j_iret K dX6_waitingAt_38 ?_
        exact jret_I (by unfold fres; rw [fidx_eq (Nat.le_refl _) hno (fun h => absurd h (Nat.lt_irrefl _)), if_neg (Nat.lt_irrefl _)])
      · have hj3 : j < n := nle0 h_7 hp rfl (by omega) (by omega)
        refine j_aload_n K 0 dX6_waitingAt_10 rfl rfl ?_
        refine jGr K 39 0 dX6_waitingAt_11 f_X6_46 rfl rfl rfl rfl ?_
        refine j_iload_n K 2 dX6_waitingAt_14 rfl rfl ?_
        refine jIald K (j) dX6_waitingAt_15 rfl rfl rfl (by omega) ?_
        refine j_iconst K (-1) dX6_waitingAt_16 rfl ?_
        refine j_icmp_eq K 31 dX6_waitingAt_17 (by decide) (fun h_17 => ?_) (fun h_17 => ?_)
        · refine j_iinc (v := nI (j + 1)) K dX6_waitingAt_31 rfl (by decide) (nI_1 _) ?_
          refine j_goto K 2 dX6_waitingAt_34 (by decide) ?_
          refine ih (j + 1) (by omega) (by omega) (fun j' hj' => (Nat.lt_succ_iff_lt_or_eq.mp hj').elim (hno j') (fun e => ?_))
          subst e
          first
          | exact wai_1 h_17
          | exact wai_2 h_26
        · refine j_aload_n K 0 dX6_waitingAt_20 rfl rfl ?_
          refine j_iload_n K 2 dX6_waitingAt_21 rfl rfl ?_
          refine j_cV1r K dX6_waitingAt_22 m_X6_ahead v_X6_ahead k_X6_186 rfl ⟨by decide, rfl⟩ rfl (c_Mahead _ hn6 hp hj3 rfl) (Nat.le_of_ble_eq_true rfl) ⟨by decide, by decide⟩ (by decide) (by decide) ?_
          refine j_iload_n K 1 dX6_waitingAt_25 rfl rfl ?_
          refine j_icmp_ne K 31 dX6_waitingAt_26 (by decide) (fun h_26 => ?_) (fun h_26 => ?_)
          · refine j_iinc (v := nI (j + 1)) K dX6_waitingAt_31 rfl (by decide) (nI_1 _) ?_
            refine j_goto K 2 dX6_waitingAt_34 (by decide) ?_
            refine ih (j + 1) (by omega) (by omega) (fun j' hj' => (Nat.lt_succ_iff_lt_or_eq.mp hj').elim (hno j') (fun e => ?_))
            subst e
            first
            | exact wai_1 h_17
            | exact wai_2 h_26
          · refine j_iload_n K 2 dX6_waitingAt_29 rfl rfl ?_
            refine j_iret K dX6_waitingAt_30 ?_
            exact jret_I (by unfold fres; rw [fidx_eq (j := j) (by omega) hno (fun _ => wai_3 h_17 h_26), if_pos hj3])
  refine j_iconst K 0 dX6_waitingAt_0 rfl ?_
  refine j_istore_n K 2 dX6_waitingAt_1 rfl (by decide) ?_
  exact lp (n + 1) 0 (by omega) (by omega) (fun j' h => absurd h (by omega))
set_option maxRecDepth 20000 in
set_option maxHeartbeats 400000 in
theorem c_Mmrd {l : Launch} {D : va_G} {ca : Nat → ClassId} {q0 : Nat} {sa : Nat → Nat} {ad : jAd} {z n u : Nat} {V : jV} (x : Int32) (hx : x = nI u) (hu : u < 24) : jMet l D ca q0 sa ad yX6_makeReadable cX6_makeReadable 2 none 0 0 0 [.ref (ad 20 0), .int x] (jS z n V) (jRet none (jS z n (mrdY V u))) := by
  refine j_enter RX6 [some (.ref (ad 20 0)), some (.int x)] rfl (by decide) (by simp [Value.category]) (Nat.le_of_ble_eq_true rfl) rfl ?_
  intro p e s m args below meth c K hnm hX
  refine j_aload_n K 0 dX6_makeReadable_0 rfl rfl ?_
  refine j_dup K dX6_makeReadable_1 rfl ?_
  refine jGi K dX6_makeReadable_2 f_X6_177 rfl rfl rfl ?_
  refine j_iconst K 5 dX6_makeReadable_5 rfl ?_
  refine j_iadd K dX6_makeReadable_6 ?_
  refine jPi K dX6_makeReadable_7 fo_X6_177 rfl rfl rfl rfl (Or.inl rfl) ?_
  refine j_aload_n K 0 dX6_makeReadable_10 rfl rfl ?_
  refine jGr K 48 0 dX6_makeReadable_11 f_X6_71 rfl rfl rfl rfl ?_
  refine j_iload_n K 1 dX6_makeReadable_14 rfl rfl ?_
  refine j_iconst K 1 dX6_makeReadable_15 rfl ?_
  refine jIast K (u) dX6_makeReadable_16 rfl rfl hx (by omega) ?_
  refine j_aload_n K 0 dX6_makeReadable_17 rfl rfl ?_
  refine jGr K 49 0 dX6_makeReadable_18 f_X6_74 rfl rfl rfl rfl ?_
  refine j_iload_n K 1 dX6_makeReadable_21 rfl rfl ?_
  refine j_aload_n K 0 dX6_makeReadable_22 rfl rfl ?_
  refine jGi K dX6_makeReadable_23 f_X6_102 rfl rfl rfl ?_
  refine jIast K (u) dX6_makeReadable_26 rfl rfl hx (by omega) ?_
  refine j_vret K dX6_makeReadable_27 ?_
  exact ⟨rfl, rfl⟩
set_option maxRecDepth 20000 in
set_option maxHeartbeats 400000 in
theorem c_Munr {l : Launch} {D : va_G} {ca : Nat → ClassId} {q0 : Nat} {sa : Nat → Nat} {ad : jAd} {z n a c4 : Nat} {V : jV} (x : Int32) (hn6 : n ≤ 6) (ha : a < n) (hx : x = nI a) (hl4 : V 43 0 a = nI c4) (hc4 : c4 ≤ 4)  : jMet l D ca q0 sa ad yX6_unreadable cX6_unreadable 4 (some .int) 0 0 0 [.ref (ad 20 0), .int x] (jS z n V) (jRet (some (.int (umY V a c4))) (jS z n V)) := by
  refine j_enter RX6 [some (.ref (ad 20 0)), some (.int x), none, none] rfl (by decide) (by simp [Value.category]) (Nat.le_of_ble_eq_true rfl) rfl ?_
  intro p e s m args below meth c K hnm hX
  have lp : ∀ (k j : Nat) (acc : Int32), j ≤ c4 → c4 < j + k → acc = umY V a j → jW p l e (jRm 0 0 0) s m args below meth c D ca q0 ad 4 (jZ below args s D ca q0 ad 0 0 (jRet (some (.int (umY V a c4))) (jS z n V))) 0 0 4 [some (.ref (ad 20 0)), some (.int x), some (.int acc), some (.int (nI j))] [] (jS z n V) := by
    intro k
    induction k with
    | zero => intro j acc hj1 hj2; exact absurd hj2 (by omega)
    | succ k ih =>
      intro j acc hj1 hj2 hacc
      refine j_iload_n K 3 dX6_unreadable_4 rfl rfl ?_
      refine j_aload_n K 0 dX6_unreadable_5 rfl rfl ?_
      refine jGr K 43 0 dX6_unreadable_6 f_X6_56 rfl rfl rfl rfl ?_
      refine j_iload_n K 1 dX6_unreadable_9 rfl rfl ?_
      refine jIald K (a) dX6_unreadable_10 rfl rfl hx (by omega) ?_
      refine j_icmp_ge K 44 dX6_unreadable_11 (by decide) (fun h_11 => ?_) (fun h_11 => ?_)
      · have hj9 : j = c4 := by have := nle1 h_11 hl4 rfl (by omega) (by omega); omega
        subst hj9
        refine j_iload_n K 2 dX6_unreadable_44 rfl rfl ?_
        refine j_iret K dX6_unreadable_45 ?_
        rw [hacc]
        exact ⟨rfl, rfl⟩
      · have hj3 : j < c4 := nle0 h_11 hl4 rfl (by omega) (by omega)
        refine j_iload_n K 2 dX6_unreadable_14 rfl rfl ?_
        refine j_aload_n K 0 dX6_unreadable_15 rfl rfl ?_
        refine jGr K 48 0 dX6_unreadable_16 f_X6_71 rfl rfl rfl rfl ?_
        refine j_iconst K 4 dX6_unreadable_19 rfl ?_
        refine j_iload_n K 1 dX6_unreadable_20 rfl rfl ?_
        refine j_imul K dX6_unreadable_21 ?_
        refine j_iload_n K 3 dX6_unreadable_22 rfl rfl ?_
        refine j_iadd K dX6_unreadable_23 ?_
        refine jIald K (((4 * a) + j)) dX6_unreadable_24 rfl rfl (jx_add (jx_mul rfl hx) rfl) (by omega) ?_
        refine j_iconst K 1 dX6_unreadable_25 rfl ?_
        refine j_icmp_ne K 33 dX6_unreadable_26 (by decide) (fun h_26 => ?_) (fun h_26 => ?_)
        · refine j_iconst K 1 dX6_unreadable_33 rfl ?_
          refine j_iload_n K 3 dX6_unreadable_34 rfl rfl ?_
          refine j_ishl K dX6_unreadable_35 ?_
          refine j_ior K dX6_unreadable_36 ?_
          refine j_istore_n K 2 dX6_unreadable_37 rfl (by decide) ?_
          refine j_iinc (v := nI (j + 1)) K dX6_unreadable_38 rfl (by decide) (nI_1 _) ?_
          refine j_goto K 4 dX6_unreadable_41 (by decide) ?_
          refine ih (j + 1) _ (by omega) (by omega) ?_
          first
          | (rw [umY, if_pos h_26, hacc]; exact Int32.or_zero)
          | rw [umY, if_neg h_26, hacc]
        · refine j_iconst K 0 dX6_unreadable_29 rfl ?_
          refine j_goto K 36 dX6_unreadable_30 (by decide) ?_
          refine j_ior K dX6_unreadable_36 ?_
          refine j_istore_n K 2 dX6_unreadable_37 rfl (by decide) ?_
          refine j_iinc (v := nI (j + 1)) K dX6_unreadable_38 rfl (by decide) (nI_1 _) ?_
          refine j_goto K 4 dX6_unreadable_41 (by decide) ?_
          refine ih (j + 1) _ (by omega) (by omega) ?_
          first
          | (rw [umY, if_pos h_26, hacc]; exact Int32.or_zero)
          | rw [umY, if_neg h_26, hacc]
  refine j_iconst K 0 dX6_unreadable_0 rfl ?_
  refine j_istore_n K 2 dX6_unreadable_1 rfl (by decide) ?_
  refine j_iconst K 0 dX6_unreadable_2 rfl ?_
  refine j_istore_n K 3 dX6_unreadable_3 rfl (by decide) ?_
  exact lp (c4 + 1) 0 _ (by omega) (by omega) rfl
