/-- how many of the first j lines are blank -/
def bln (V : jV) (i : Nat) : Nat → Nat
  | 0 => 0
  | j + 1 => if V 16 i j = 0 then bln V i j + 1 else bln V i j
theorem bln_le (V : jV) (i : Nat) (j : Nat) : bln V i j ≤ j := by
  induction j with
  | zero => exact Nat.le_refl _
  | succ j ih => unfold bln; split <;> omega
set_option maxRecDepth 20000 in
set_option maxHeartbeats 400000 in
theorem c_X0_blankLines {l : Launch} {D : va_G} {ca : Nat → ClassId} {q0 : Nat} {sa : Nat → Nat} {ad : jAd} {z n i c4 : Nat} {V : jV} (hl : decide (i < n) = true) (ht : LV n 6 i = true) (hw : V 6 i 3 = nI c4) (hc4 : c4 ≤ 4)  : jMet l D ca q0 sa ad yX0_blankLines cX0_blankLines 3 (some .int) 0 0 0 [.ref (ad 15 i)] (jS z n V) (jRet (some (.int (nI (bln V i c4)))) (jS z n V)) := by
  refine j_enter RX0 [some (.ref (ad 15 i)), none, none] rfl (by decide) (by simp [Value.category]) (Nat.le_of_ble_eq_true rfl) rfl ?_
  intro p e s m args below meth c K hnm hX
  have lp : ∀ (k j : Nat) , j ≤ c4 → c4 < j + k → jW p l e (jRm 0 0 0) s m args below meth c D ca q0 ad 3 (jZ below args s D ca q0 ad 0 0 (jRet (some (.int (nI (bln V i c4)))) (jS z n V))) 0 0 4 [some (.ref (ad 15 i)), some (.int (nI (bln V i j))), some (.int (nI j))] [] (jS z n V) := by
    intro k
    induction k with
    | zero => intro j  hj1 hj2; exact absurd hj2 (by omega)
    | succ k ih =>
      intro j  hj1 hj2 
      refine j_iload_n K 2 dX0_blankLines_4 rfl rfl ?_
      refine j_aload_n K 0 dX0_blankLines_5 rfl rfl ?_
      refine jGr K 6 i dX0_blankLines_6 f_X0_12 rfl hl rfl rfl ?_
      refine jGi K dX0_blankLines_9 f_X0_39 rfl ht rfl ?_
      refine j_icmp_ge K 33 dX0_blankLines_12 (by decide) (fun h_12 => ?_) (fun h_12 => ?_)
      · have hj9 := nle1 h_12 hw rfl (by omega) (by omega)
        have hj : j = c4 := by omega
        subst hj
        refine j_iload_n K 1 dX0_blankLines_33 rfl rfl ?_
        refine j_iret K dX0_blankLines_34 ?_
        exact ⟨rfl, rfl⟩
      · have hj3 : j < c4 := nle0 h_12 hw rfl (by omega) (by omega)
        refine j_aload_n K 0 dX0_blankLines_15 rfl rfl ?_
        refine jGr K 16 i dX0_blankLines_16 f_X0_18 rfl hl rfl rfl ?_
        refine j_iload_n K 2 dX0_blankLines_19 rfl rfl ?_
        refine jIald K (j) dX0_blankLines_20 rfl hl rfl (by omega) ?_
        refine j_if_ne K 27 dX0_blankLines_21 (by decide) (fun h_21 => ?_) (fun h_21 => ?_)
        · refine j_iinc (v := nI (j + 1)) K dX0_blankLines_27 rfl (by decide) (nI_1 _) ?_
          refine j_goto K 4 dX0_blankLines_30 (by decide) ?_
          have hb : bln V i (j + 1) = bln V i j := by rw [bln, if_neg h_21]
          rw [← hb]
          exact ih (j + 1) (by omega) (by omega)
        · refine j_iinc (v := nI ((bln V i j) + 1)) K dX0_blankLines_24 rfl (by decide) (nI_1 _) ?_
          refine j_iinc (v := nI (j + 1)) K dX0_blankLines_27 rfl (by decide) (nI_1 _) ?_
          refine j_goto K 4 dX0_blankLines_30 (by decide) ?_
          have hb : bln V i (j + 1) = bln V i j + 1 := by rw [bln, if_pos h_21]
          rw [← hb]
          exact ih (j + 1) (by omega) (by omega)
  refine j_iconst K 0 dX0_blankLines_0 rfl ?_
  refine j_istore_n K 1 dX0_blankLines_1 rfl (by decide) ?_
  refine j_iconst K 0 dX0_blankLines_2 rfl ?_
  refine j_istore_n K 2 dX0_blankLines_3 rfl (by decide) ?_
  exact lp (c4 + 1) 0 (by omega) (by omega)
def umk (V : jV) (i : Nat) : Nat → Int32
  | 0 => 0
  | j + 1 => if V 16 i j = 1 then umk V i j else umk V i j ||| (1 <<< (nI j &&& 31))
set_option maxRecDepth 20000 in
set_option maxHeartbeats 400000 in
theorem c_X0_unreadableMask {l : Launch} {D : va_G} {ca : Nat → ClassId} {q0 : Nat} {sa : Nat → Nat} {ad : jAd} {z n i c4 : Nat} {V : jV} (hl : decide (i < n) = true) (ht : LV n 6 i = true) (hw : V 6 i 3 = nI c4) (hc4 : c4 ≤ 4)  : jMet l D ca q0 sa ad yX0_unreadableMask cX0_unreadableMask 3 (some .int) 0 0 0 [.ref (ad 15 i)] (jS z n V) (jRet (some (.int (umk V i c4))) (jS z n V)) := by
  refine j_enter RX0 [some (.ref (ad 15 i)), none, none] rfl (by decide) (by simp [Value.category]) (Nat.le_of_ble_eq_true rfl) rfl ?_
  intro p e s m args below meth c K hnm hX
  have lp : ∀ (k j : Nat) , j ≤ c4 → c4 < j + k → jW p l e (jRm 0 0 0) s m args below meth c D ca q0 ad 3 (jZ below args s D ca q0 ad 0 0 (jRet (some (.int (umk V i c4))) (jS z n V))) 0 0 4 [some (.ref (ad 15 i)), some (.int (umk V i j)), some (.int (nI j))] [] (jS z n V) := by
    intro k
    induction k with
    | zero => intro j  hj1 hj2; exact absurd hj2 (by omega)
    | succ k ih =>
      intro j  hj1 hj2 
      refine j_iload_n K 2 dX0_unreadableMask_4 rfl rfl ?_
      refine j_aload_n K 0 dX0_unreadableMask_5 rfl rfl ?_
      refine jGr K 6 i dX0_unreadableMask_6 f_X0_12 rfl hl rfl rfl ?_
      refine jGi K dX0_unreadableMask_9 f_X0_39 rfl ht rfl ?_
      refine j_icmp_ge K 37 dX0_unreadableMask_12 (by decide) (fun h_12 => ?_) (fun h_12 => ?_)
      · have hj9 := nle1 h_12 hw rfl (by omega) (by omega)
        have hj : j = c4 := by omega
        subst hj
        refine j_iload_n K 1 dX0_unreadableMask_37 rfl rfl ?_
        refine j_iret K dX0_unreadableMask_38 ?_
        exact ⟨rfl, rfl⟩
      · have hj3 : j < c4 := nle0 h_12 hw rfl (by omega) (by omega)
        refine j_aload_n K 0 dX0_unreadableMask_15 rfl rfl ?_
        refine jGr K 16 i dX0_unreadableMask_16 f_X0_18 rfl hl rfl rfl ?_
        refine j_iload_n K 2 dX0_unreadableMask_19 rfl rfl ?_
        refine jIald K (j) dX0_unreadableMask_20 rfl hl rfl (by omega) ?_
        refine j_iconst K 1 dX0_unreadableMask_21 rfl ?_
        refine j_icmp_eq K 31 dX0_unreadableMask_22 (by decide) (fun h_22 => ?_) (fun h_22 => ?_)
        · refine j_iinc (v := nI (j + 1)) K dX0_unreadableMask_31 rfl (by decide) (nI_1 _) ?_
          refine j_goto K 4 dX0_unreadableMask_34 (by decide) ?_
          have hb : umk V i (j + 1) = umk V i j := by rw [umk, if_pos h_22]
          have h9 := ih (j + 1) (by omega) (by omega)
          rw [hb] at h9
          exact h9
        · refine j_iload_n K 1 dX0_unreadableMask_25 rfl rfl ?_
          refine j_iconst K 1 dX0_unreadableMask_26 rfl ?_
          refine j_iload_n K 2 dX0_unreadableMask_27 rfl rfl ?_
          refine j_ishl K dX0_unreadableMask_28 ?_
          refine j_ior K dX0_unreadableMask_29 ?_
          refine j_istore_n K 1 dX0_unreadableMask_30 rfl (by decide) ?_
          refine j_iinc (v := nI (j + 1)) K dX0_unreadableMask_31 rfl (by decide) (nI_1 _) ?_
          refine j_goto K 4 dX0_unreadableMask_34 (by decide) ?_
          have hb : umk V i (j + 1) = umk V i j ||| (1 <<< (nI j &&& 31)) := by rw [umk, if_neg h_22]
          have h9 := ih (j + 1) (by omega) (by omega)
          rw [hb] at h9
          exact h9
  refine j_iconst K 0 dX0_unreadableMask_0 rfl ?_
  refine j_istore_n K 1 dX0_unreadableMask_1 rfl (by decide) ?_
  refine j_iconst K 0 dX0_unreadableMask_2 rfl ?_
  refine j_istore_n K 2 dX0_unreadableMask_3 rfl (by decide) ?_
  exact lp (c4 + 1) 0 (by omega) (by omega)
def spo (V : jV) (i : Nat) : Nat → Bool := fun j => decide (V 16 i j = 2) || decide (V 16 i j = 3)
set_option maxRecDepth 20000 in
set_option maxHeartbeats 400000 in
theorem c_X0_firstSpoiltLine {l : Launch} {D : va_G} {ca : Nat → ClassId} {q0 : Nat} {sa : Nat → Nat} {ad : jAd} {z n i c4 : Nat} {V : jV} (hl : decide (i < n) = true) (ht : LV n 6 i = true) (hw : V 6 i 3 = nI c4) (hc4 : c4 ≤ 4)  : jMet l D ca q0 sa ad yX0_firstSpoiltLine cX0_firstSpoiltLine 2 (some .int) 0 0 0 [.ref (ad 15 i)] (jS z n V) (jRet (some (.int (fres (spo V i) c4))) (jS z n V)) := by
  refine j_enter RX0 [some (.ref (ad 15 i)), none] rfl (by decide) (by simp [Value.category]) (Nat.le_of_ble_eq_true rfl) rfl ?_
  intro p e s m args below meth c K hnm hX
  have lp : ∀ (k j : Nat) , j ≤ c4 → c4 < j + k → (∀ j', j' < j → spo V i j' = false) → jW p l e (jRm 0 0 0) s m args below meth c D ca q0 ad 2 (jZ below args s D ca q0 ad 0 0 (jRet (some (.int (fres (spo V i) c4))) (jS z n V))) 0 0 2 [some (.ref (ad 15 i)), some (.int (nI j))] [] (jS z n V) := by
    intro k
    induction k with
    | zero => intro j  hj1 hj2; exact absurd hj2 (by omega)
    | succ k ih =>
      intro j  hj1 hj2 hno
      refine j_iload_n K 1 dX0_firstSpoiltLine_2 rfl rfl ?_
      refine j_aload_n K 0 dX0_firstSpoiltLine_3 rfl rfl ?_
      refine jGr K 6 i dX0_firstSpoiltLine_4 f_X0_12 rfl hl rfl rfl ?_
      refine jGi K dX0_firstSpoiltLine_7 f_X0_39 rfl ht rfl ?_
      refine j_icmp_ge K 41 dX0_firstSpoiltLine_10 (by decide) (fun h_10 => ?_) (fun h_10 => ?_)
      · have hj9 := nle1 h_10 hw rfl (by omega) (by omega)
        have hj : j = c4 := by omega
        subst hj
        refine j_iconst K (-1) dX0_firstSpoiltLine_41 rfl ?_
        refine j_iret K dX0_firstSpoiltLine_42 ?_
        exact jret_I (by unfold fres; rw [fidx_eq (Nat.le_refl _) hno (fun h => absurd h (Nat.lt_irrefl _)), if_neg (Nat.lt_irrefl _)])
      · have hj3 : j < c4 := nle0 h_10 hw rfl (by omega) (by omega)
        refine j_aload_n K 0 dX0_firstSpoiltLine_13 rfl rfl ?_
        refine jGr K 16 i dX0_firstSpoiltLine_14 f_X0_18 rfl hl rfl rfl ?_
        refine j_iload_n K 1 dX0_firstSpoiltLine_17 rfl rfl ?_
        refine jIald K (j) dX0_firstSpoiltLine_18 rfl hl rfl (by omega) ?_
        refine j_iconst K 2 dX0_firstSpoiltLine_19 rfl ?_
        refine j_icmp_eq K 33 dX0_firstSpoiltLine_20 (by decide) (fun h_20 => ?_) (fun h_20 => ?_)
        · refine j_iload_n K 1 dX0_firstSpoiltLine_33 rfl rfl ?_
          refine j_iret K dX0_firstSpoiltLine_34 ?_
          have hs : spo V i j = true := by
            first
            | (have a1 : V 16 i j = 2 := h_20; simp [spo, a1]; done)
            | (have a1 : V 16 i j = 3 := h_30; simp [spo, a1]; done)
          exact jret_I (by unfold fres; rw [fidx_eq (j := j) (by omega) hno (fun _ => hs), if_pos hj3])
        · refine j_aload_n K 0 dX0_firstSpoiltLine_23 rfl rfl ?_
          refine jGr K 16 i dX0_firstSpoiltLine_24 f_X0_18 rfl hl rfl rfl ?_
          refine j_iload_n K 1 dX0_firstSpoiltLine_27 rfl rfl ?_
          refine jIald K (j) dX0_firstSpoiltLine_28 rfl hl rfl (by omega) ?_
          refine j_iconst K 3 dX0_firstSpoiltLine_29 rfl ?_
          refine j_icmp_ne K 35 dX0_firstSpoiltLine_30 (by decide) (fun h_30 => ?_) (fun h_30 => ?_)
          · refine j_iinc (v := nI (j + 1)) K dX0_firstSpoiltLine_35 rfl (by decide) (nI_1 _) ?_
            refine j_goto K 2 dX0_firstSpoiltLine_38 (by decide) ?_
            exact ih (j + 1) (by omega) (by omega) (fun j' hj' => (Nat.lt_succ_iff_lt_or_eq.mp hj').elim (hno j') (fun e => by subst e; have a1 : ¬ V 16 i j' = 2 := h_20; have a2 : ¬ V 16 i j' = 3 := h_30; simp [spo, a1, a2]))
          · refine j_iload_n K 1 dX0_firstSpoiltLine_33 rfl rfl ?_
            refine j_iret K dX0_firstSpoiltLine_34 ?_
            have hs : spo V i j = true := by
              first
              | (have a1 : V 16 i j = 2 := h_20; simp [spo, a1]; done)
              | (have a1 : V 16 i j = 3 := h_30; simp [spo, a1]; done)
            exact jret_I (by unfold fres; rw [fidx_eq (j := j) (by omega) hno (fun _ => hs), if_pos hj3])
  refine j_iconst K 0 dX0_firstSpoiltLine_0 rfl ?_
  refine j_istore_n K 1 dX0_firstSpoiltLine_1 rfl (by decide) ?_
  exact lp (c4 + 1) 0 (by omega) (by omega) (fun j' h => absurd h (by omega))
def mrdV (V : jV) (i j : Nat) (d : Int32) : jV := up (up V 16 i j 1) 17 i j d
set_option maxRecDepth 20000 in
set_option maxHeartbeats 400000 in
theorem c_X0_makeReadable {l : Launch} {D : va_G} {ca : Nat → ClassId} {q0 : Nat} {sa : Nat → Nat} {ad : jAd} {z n i j : Nat} {V : jV} (x d : Int32) (hl : decide (i < n) = true) (hx : x = nI j) (hj : j < 4) : jMet l D ca q0 sa ad yX0_makeReadable cX0_makeReadable 3 none 0 0 0 [.ref (ad 15 i), .int x, .int d] (jS z n V) (jRet none (jS z n (mrdV V i j d))) := by
  refine j_enter RX0 [some (.ref (ad 15 i)), some (.int x), some (.int d)] rfl (by decide) (by simp [Value.category]) (Nat.le_of_ble_eq_true rfl) rfl ?_
  intro p e s m args below meth c K hnm hX
  refine j_aload_n K 0 dX0_makeReadable_0 rfl rfl ?_
  refine jGr K 16 i dX0_makeReadable_1 f_X0_18 rfl hl rfl rfl ?_
  refine j_iload_n K 1 dX0_makeReadable_4 rfl rfl ?_
  refine j_iconst K 1 dX0_makeReadable_5 rfl ?_
  refine jIast K (j) dX0_makeReadable_6 rfl hl hx (by omega) ?_
  refine j_aload_n K 0 dX0_makeReadable_7 rfl rfl ?_
  refine jGr K 17 i dX0_makeReadable_8 f_X0_22 rfl hl rfl rfl ?_
  refine j_iload_n K 1 dX0_makeReadable_11 rfl rfl ?_
  refine j_iload_n K 2 dX0_makeReadable_12 rfl rfl ?_
  refine jIast K (j) dX0_makeReadable_13 rfl hl hx (by omega) ?_
  refine j_vret K dX0_makeReadable_14 ?_
  exact ⟨rfl, rfl⟩
def blt (V : jV) (i : Nat) : Nat → jV
  | 0 => V
  | j + 1 => if V 16 i j = 1 then up V 16 i j 2 else blt V i j
set_option maxRecDepth 20000 in
set_option maxHeartbeats 400000 in
theorem c_X0_blotLastReadable {l : Launch} {D : va_G} {ca : Nat → ClassId} {q0 : Nat} {sa : Nat → Nat} {ad : jAd} {z n i c4 : Nat} {V : jV} (hl : decide (i < n) = true) (ht : LV n 6 i = true) (hw : V 6 i 3 = nI c4) (hc4 : c4 ≤ 4)  : jMet l D ca q0 sa ad yX0_blotLastReadable cX0_blotLastReadable 2 none 0 0 0 [.ref (ad 15 i)] (jS z n V) (jRet none (jS z n (blt V i c4))) := by
  refine j_enter RX0 [some (.ref (ad 15 i)), none] rfl (by decide) (by simp [Value.category]) (Nat.le_of_ble_eq_true rfl) rfl ?_
  intro p e s m args below meth c K hnm hX
  have lp : ∀ (j : Nat), j ≤ c4 → blt V i j = blt V i c4 → jW p l e (jRm 0 0 0) s m args below meth c D ca q0 ad 2 (jZ below args s D ca q0 ad 0 0 (jRet none (jS z n (blt V i c4)))) 0 0 10 [some (.ref (ad 15 i)), some (.int (nI j - 1))] [] (jS z n V) := by
    intro j
    induction j with
    | zero =>
      intro hj hE
      refine j_iload_n K 1 dX0_blotLastReadable_10 rfl rfl ?_
      refine j_if_lt K 38 dX0_blotLastReadable_11 (by decide) (fun h_11 => ?_) (fun h_11 => ?_)
      · refine j_vret K dX0_blotLastReadable_38 ?_
        rw [← hE]; exact ⟨rfl, rfl⟩
      · exact absurd (show nI 0 - 1 < 0 by decide) h_11
    | succ j ih =>
      intro hj hE
      rw [nI_pred]
      refine j_iload_n K 1 dX0_blotLastReadable_10 rfl rfl ?_
      refine j_if_lt K 38 dX0_blotLastReadable_11 (by decide) (fun h_11 => ?_) (fun h_11 => ?_)
      · exact absurd h_11 (nI_pos (by omega))
      · refine j_aload_n K 0 dX0_blotLastReadable_14 rfl rfl ?_
        refine jGr K 16 i dX0_blotLastReadable_15 f_X0_18 rfl hl rfl rfl ?_
        refine j_iload_n K 1 dX0_blotLastReadable_18 rfl rfl ?_
        refine jIald K (j) dX0_blotLastReadable_19 rfl hl rfl (by omega) ?_
        refine j_iconst K 1 dX0_blotLastReadable_20 rfl ?_
        refine j_icmp_ne K 32 dX0_blotLastReadable_21 (by decide) (fun h_21 => ?_) (fun h_21 => ?_)
        · refine j_iinc (v := nI (j) - 1) K dX0_blotLastReadable_32 rfl (by decide) (jx_dec _) ?_
          refine j_goto K 10 dX0_blotLastReadable_35 (by decide) ?_
          exact ih (by omega) (by rw [← hE, blt, if_neg h_21])
        · refine j_aload_n K 0 dX0_blotLastReadable_24 rfl rfl ?_
          refine jGr K 16 i dX0_blotLastReadable_25 f_X0_18 rfl hl rfl rfl ?_
          refine j_iload_n K 1 dX0_blotLastReadable_28 rfl rfl ?_
          refine j_iconst K 2 dX0_blotLastReadable_29 rfl ?_
          refine jIast K (j) dX0_blotLastReadable_30 rfl hl rfl (by omega) ?_
          refine j_vret K dX0_blotLastReadable_31 ?_
          rw [← hE, blt, if_pos (by simpa using h_21)]; exact ⟨rfl, rfl⟩
  refine j_aload_n K 0 dX0_blotLastReadable_0 rfl rfl ?_
  refine jGr K 6 i dX0_blotLastReadable_1 f_X0_12 rfl hl rfl rfl ?_
  refine jGi K dX0_blotLastReadable_4 f_X0_39 rfl ht rfl ?_
  refine j_iconst K 1 dX0_blotLastReadable_7 rfl ?_
  refine j_isub K dX0_blotLastReadable_8 ?_
  rw [show V 6 i 3 - 1 = nI c4 - 1 by rw [hw]]
  refine j_istore_n K 1 dX0_blotLastReadable_9 rfl (by decide) ?_
  exact lp c4 (Nat.le_refl _) rfl
def drpV (V : jV) (i c4 : Nat) (r : Int32) : jV := if V 15 i 4 + r < 12 then up V 15 i 4 (V 15 i 4 + r) else blt (up (up V 15 i 4 (V 15 i 4 + r)) 15 i 4 (V 15 i 4 + r - 12)) i c4
set_option maxRecDepth 20000 in
set_option maxHeartbeats 400000 in
theorem c_X0_drip {l : Launch} {D : va_G} {ca : Nat → ClassId} {q0 : Nat} {sa : Nat → Nat} {ad : jAd} {z n i c4 : Nat} {V : jV} (r : Int32) (hl : decide (i < n) = true) (ht : LV n 6 i = true) (hw : V 6 i 3 = nI c4) (hc4 : c4 ≤ 4)  : jMet l D ca q0 sa ad yX0_drip cX0_drip 2 none 1 0 0 [.ref (ad 15 i), .int r] (jS z n V) (jRet none (jS z n (drpV V i c4 r))) := by
  refine j_enter RX0 [some (.ref (ad 15 i)), some (.int r)] rfl (by decide) (by simp [Value.category]) (Nat.le_of_ble_eq_true rfl) rfl ?_
  intro p e s m args below meth c K hnm hX
  have ha : up V 15 i 4 (V 15 i 4 + r) 15 i 4 = V 15 i 4 + r := by simp [up]
  refine j_aload_n K 0 dX0_drip_0 rfl rfl ?_
  refine j_dup K dX0_drip_1 rfl ?_
  refine jGi K dX0_drip_2 f_X0_29 rfl hl rfl ?_
  refine j_iload_n K 1 dX0_drip_5 rfl rfl ?_
  refine j_iadd K dX0_drip_6 ?_
  refine jPi K dX0_drip_7 fo_X0_29 rfl hl rfl rfl (Or.inl rfl) ?_
  refine j_aload_n K 0 dX0_drip_10 rfl rfl ?_
  refine jGi K dX0_drip_11 f_X0_29 rfl hl rfl ?_
  refine j_bipush K 12 dX0_drip_14 rfl ?_
  refine j_icmp_lt K 34 dX0_drip_16 (by decide) (fun h_16 => ?_) (fun h_16 => ?_)
  · refine j_vret K dX0_drip_34 ?_
    unfold drpV; rw [if_pos (ha ▸ h_16)]; exact ⟨rfl, rfl⟩
  · refine j_aload_n K 0 dX0_drip_19 rfl rfl ?_
    refine j_dup K dX0_drip_20 rfl ?_
    refine jGi K dX0_drip_21 f_X0_29 rfl hl rfl ?_
    refine j_bipush K 12 dX0_drip_24 rfl ?_
    refine j_isub K dX0_drip_26 ?_
    refine jPi K dX0_drip_27 fo_X0_29 rfl hl rfl rfl (Or.inl rfl) ?_
    refine j_aload_n K 0 dX0_drip_30 rfl rfl ?_
    refine j_cV0n K dX0_drip_31 m_X0_blotLastReadable v_X0_blotLastReadable k_X0_36 rfl ⟨by decide, rfl⟩ hl (c_X0_blotLastReadable hl ht hw hc4) (Nat.le_of_ble_eq_true rfl) ⟨by decide, by decide⟩ (by decide) (by decide) ?_
    refine j_vret K dX0_drip_34 ?_
    refine jret_V (fun a b e => ?_)
    unfold drpV; rw [if_neg (ha ▸ h_16)]
    show blt (up (up V 15 i 4 (V 15 i 4 + r)) 15 i 4 (up V 15 i 4 (V 15 i 4 + r) 15 i 4 - 12)) i c4 a b e = _
    rw [ha]
def fadV (V : jV) (i : Nat) (d : Int32) (c : Nat) : jV := fun k a j => if k = 16 ∧ a = i ∧ j < c ∧ V 16 i j = 1 ∧ ¬ d - V 17 i j < 7 then 3 else V k a j
set_option maxRecDepth 20000 in
set_option maxHeartbeats 400000 in
theorem c_X0_fadeOldLines {l : Launch} {D : va_G} {ca : Nat → ClassId} {q0 : Nat} {sa : Nat → Nat} {ad : jAd} {z n i c4 : Nat} {V : jV} (d : Int32) (hl : decide (i < n) = true) (ht : LV n 6 i = true) (hw : V 6 i 3 = nI c4) (hc4 : c4 ≤ 4)  : jMet l D ca q0 sa ad yX0_fadeOldLines cX0_fadeOldLines 3 none 0 0 0 [.ref (ad 15 i), .int d] (jS z n V) (jRet none (jS z n (fadV V i d c4))) := by
  refine j_enter RX0 [some (.ref (ad 15 i)), some (.int d), none] rfl (by decide) (by simp [Value.category]) (Nat.le_of_ble_eq_true rfl) rfl ?_
  intro p e s m args below meth c K hnm hX
  have lp : ∀ (k j : Nat) , j ≤ c4 → c4 < j + k → jW p l e (jRm 0 0 0) s m args below meth c D ca q0 ad 3 (jZ below args s D ca q0 ad 0 0 (jRet none (jS z n (fadV V i d c4)))) 0 0 2 [some (.ref (ad 15 i)), some (.int d), some (.int (nI j))] [] (jS z n (fadV V i d j)) := by
    intro k
    induction k with
    | zero => intro j  hj1 hj2; exact absurd hj2 (by omega)
    | succ k ih =>
      intro j  hj1 hj2 
      refine j_iload_n K 2 dX0_fadeOldLines_2 rfl rfl ?_
      refine j_aload_n K 0 dX0_fadeOldLines_3 rfl rfl ?_
      refine jGr K 6 i dX0_fadeOldLines_4 f_X0_12 rfl hl rfl rfl ?_
      refine jGi K dX0_fadeOldLines_7 f_X0_39 rfl ht rfl ?_
      refine j_icmp_ge K 49 dX0_fadeOldLines_10 (by decide) (fun h_10 => ?_) (fun h_10 => ?_)
      · have hj9 := nle1 h_10 hw rfl (by omega) (by omega)
        have hj : j = c4 := by omega
        subst hj
        refine j_vret K dX0_fadeOldLines_49 ⟨rfl, rfl⟩
      · have hj3 : j < c4 := nle0 h_10 hw rfl (by omega) (by omega)
        have hf1 : fadV V i d j 16 i j = V 16 i j := by simp [fadV]
        have hf2 : fadV V i d j 17 i j = V 17 i j := by simp [fadV]
        refine j_aload_n K 0 dX0_fadeOldLines_13 rfl rfl ?_
        refine jGr K 16 i dX0_fadeOldLines_14 f_X0_18 rfl hl rfl rfl ?_
        refine j_iload_n K 2 dX0_fadeOldLines_17 rfl rfl ?_
        refine jIald K (j) dX0_fadeOldLines_18 rfl hl rfl (by omega) ?_
        refine j_iconst K 1 dX0_fadeOldLines_19 rfl ?_
        refine j_icmp_ne K 43 dX0_fadeOldLines_20 (by decide) (fun h_20 => ?_) (fun h_20 => ?_)
        · refine j_iinc (v := nI (j + 1)) K dX0_fadeOldLines_43 rfl (by decide) (nI_1 _) ?_
          refine j_goto K 2 dX0_fadeOldLines_46 (by decide) ?_
          have a1 : ¬ V 16 i j = 1 := hf1 ▸ h_20
          refine j_eqV (V' := fadV V i d (j + 1)) (fun a b e => ?_) (ih (j + 1) (by omega) (by omega))
          simp only [up, fadV]
          grind
        · refine j_iload_n K 1 dX0_fadeOldLines_23 rfl rfl ?_
          refine j_aload_n K 0 dX0_fadeOldLines_24 rfl rfl ?_
          refine jGr K 17 i dX0_fadeOldLines_25 f_X0_22 rfl hl rfl rfl ?_
          refine j_iload_n K 2 dX0_fadeOldLines_28 rfl rfl ?_
          refine jIald K (j) dX0_fadeOldLines_29 rfl hl rfl (by omega) ?_
          refine j_isub K dX0_fadeOldLines_30 ?_
          refine j_bipush K 7 dX0_fadeOldLines_31 rfl ?_
          refine j_icmp_lt K 43 dX0_fadeOldLines_33 (by decide) (fun h_33 => ?_) (fun h_33 => ?_)
          · refine j_iinc (v := nI (j + 1)) K dX0_fadeOldLines_43 rfl (by decide) (nI_1 _) ?_
            refine j_goto K 2 dX0_fadeOldLines_46 (by decide) ?_
            have a1 : V 16 i j = 1 := hf1 ▸ h_20
            have a2 : d - V 17 i j < 7 := hf2 ▸ h_33
            refine j_eqV (V' := fadV V i d (j + 1)) (fun a b e => ?_) (ih (j + 1) (by omega) (by omega))
            simp only [up, fadV]
            grind
          · refine j_aload_n K 0 dX0_fadeOldLines_36 rfl rfl ?_
            refine jGr K 16 i dX0_fadeOldLines_37 f_X0_18 rfl hl rfl rfl ?_
            refine j_iload_n K 2 dX0_fadeOldLines_40 rfl rfl ?_
            refine j_iconst K 3 dX0_fadeOldLines_41 rfl ?_
            refine jIast K (j) dX0_fadeOldLines_42 rfl hl rfl (by omega) ?_
            refine j_iinc (v := nI (j + 1)) K dX0_fadeOldLines_43 rfl (by decide) (nI_1 _) ?_
            refine j_goto K 2 dX0_fadeOldLines_46 (by decide) ?_
            have a1 : V 16 i j = 1 := hf1 ▸ h_20
            have a2 : ¬ d - V 17 i j < 7 := hf2 ▸ h_33
            refine j_eqV (V' := fadV V i d (j + 1)) (fun a b e => ?_) (ih (j + 1) (by omega) (by omega))
            simp only [up, fadV]
            grind
  refine j_iconst K 0 dX0_fadeOldLines_0 rfl ?_
  refine j_istore_n K 2 dX0_fadeOldLines_1 rfl (by decide) ?_
  refine j_eqV (V' := fadV V i d 0) (fun a b e => ?_) (lp (c4 + 1) 0 (by omega) (by omega))
  simp [fadV]
def stv (V : jV) (i g : Nat) : jV := fun k a j => if k = 16 ∧ a = i ∧ j < g then 0 else V k a j
def begV (V : jV) (i cnt : Nat) (d : Int32) : jV := up (up (stv (filV V i i cnt d) i 4) 15 i 3 d) 15 i 4 0
set_option maxRecDepth 20000 in
set_option maxHeartbeats 400000 in
theorem c_X0_begin {l : Launch} {D : va_G} {ca : Nat → ClassId} {q0 : Nat} {sa : Nat → Nat} {ad : jAd} {z n i cnt : Nat} {V : jV} (d : Int32) (hl : decide (i < n) = true) (ht : LV n 6 i = true) (hR : RI V i cnt) : jMet l D ca q0 sa ad yX0_begin cX0_begin 4 none 3 0 0 [.ref (ad 15 i), .ref (ad 10 i), .int d] (jS z n V) (jRet none (jS z n (begV V i cnt d))) := by
  refine j_enter RX0 [some (.ref (ad 15 i)), some (.ref (ad 10 i)), some (.int d), none] rfl (by decide) (by simp [Value.category]) (Nat.le_of_ble_eq_true rfl) rfl ?_
  intro p e s m args below meth c K hnm hX
  have lp : ∀ (k j : Nat) , j ≤ 4 → 4 < j + k → jW p l e (jRm 3 0 0) s m args below meth c D ca q0 ad 4 (jZ below args s D ca q0 ad 0 0 (jRet none (jS z n (begV V i cnt d)))) 0 0 11 [some (.ref (ad 15 i)), some (.ref (ad 10 i)), some (.int d), some (.int (nI j))] [] (jS z n (stv (filV V i i cnt d) i j)) := by
    intro k
    induction k with
    | zero => intro j  hj1 hj2; exact absurd hj2 (by omega)
    | succ k ih =>
      intro j  hj1 hj2 
      refine j_iload_n K 3 dX0_begin_11 rfl rfl ?_
      refine j_iconst K 4 dX0_begin_12 rfl ?_
      refine j_icmp_ge K 29 dX0_begin_13 (by decide) (fun h_13 => ?_) (fun h_13 => ?_)
      · have hj9 := nle1 h_13 (a := 4) rfl rfl (by decide) (by omega)
        have hj : j = 4 := by omega
        subst hj
        refine j_aload_n K 0 dX0_begin_29 rfl rfl ?_
        refine j_iload_n K 2 dX0_begin_30 rfl rfl ?_
        refine jPi K dX0_begin_31 fo_X0_25 rfl hl rfl rfl (Or.inl rfl) ?_
        refine j_aload_n K 0 dX0_begin_34 rfl rfl ?_
        refine j_iconst K 0 dX0_begin_35 rfl ?_
        refine jPi K dX0_begin_36 fo_X0_29 rfl hl rfl rfl (Or.inl rfl) ?_
        refine j_vret K dX0_begin_39 ?_
        exact ⟨rfl, rfl⟩
      · have hj3 : j < 4 := nle0 h_13 (a := 4) rfl rfl (by decide) (by omega)
        refine j_aload_n K 0 dX0_begin_16 rfl rfl ?_
        refine jGr K 16 i dX0_begin_17 f_X0_18 rfl hl rfl rfl ?_
        refine j_iload_n K 3 dX0_begin_20 rfl rfl ?_
        refine j_iconst K 0 dX0_begin_21 rfl ?_
        refine jIast K (j) dX0_begin_22 rfl hl rfl (by omega) ?_
        refine j_iinc (v := nI (j + 1)) K dX0_begin_23 rfl (by decide) (nI_1 _) ?_
        refine j_goto K 11 dX0_begin_26 (by decide) ?_
        refine j_eqV (V' := stv (filV V i i cnt d) i (j + 1)) (fun a b e => ?_) (ih (j + 1) (by omega) (by omega))
        simp only [up, stv]
        grind
  refine j_aload_n K 0 dX0_begin_0 rfl rfl ?_
  refine jGr K 6 i dX0_begin_1 f_X0_12 rfl hl rfl rfl ?_
  refine j_aload_n K 1 dX0_begin_4 rfl rfl ?_
  refine j_iload_n K 2 dX0_begin_5 rfl rfl ?_
  refine j_cV2n K dX0_begin_6 m_X3_fill v_X3_fill k_X0_32 rfl ⟨by decide, rfl⟩ ht (c_X3_fill d hl ht hR) (Nat.le_of_ble_eq_true rfl) ⟨by decide, by decide⟩ (by decide) (by decide) ?_
  refine j_iconst K 0 dX0_begin_9 rfl ?_
  refine j_istore_n K 3 dX0_begin_10 rfl (by decide) ?_
  refine j_eqV (V' := stv (filV V i i cnt d) i 0) (fun a b e => ?_) (lp 5 0 (by omega) (by omega))
  simp [stv]
def mtB (V : jV) (ti tj : Nat) : Nat → Bool
  | 0 => true
  | j + 1 => mtB V ti tj j && (decide (V 7 ti j = V 7 tj j) && (decide (V 8 ti j = V 8 tj j) && decide (V 9 ti j = V 9 tj j)))
theorem mtB_no {V : jV} {ti tj j : Nat} (h : mtB V ti tj (j + 1) = false) : ∀ c, j < c → mtB V ti tj c = false := by
  intro c
  induction c with
  | zero => intro h; exact absurd h (by omega)
  | succ c ih =>
    intro hc
    by_cases e : j = c
    · subst e; exact h
    · unfold mtB; rw [ih (by omega)]; rfl
def mtc (V : jV) (ti tj c : Nat) : Int32 := if V 6 ti 3 = V 6 tj 3 ∧ mtB V ti tj c = true then 1 else 0
set_option maxRecDepth 20000 in
set_option maxHeartbeats 400000 in
theorem c_X3_matches {l : Launch} {D : va_G} {ca : Nat → ClassId} {q0 : Nat} {sa : Nat → Nat} {ad : jAd} {z n ti tj c4 : Nat} {V : jV} (ht : LV n 6 ti = true) (hu : LV n 6 tj = true) (hw : V 6 ti 3 = nI c4) (hc4 : c4 ≤ 4) : jMet l D ca q0 sa ad yX3_matches cX3_matches 3 (some .boolean) 0 0 0 [.ref (ad 6 ti), .ref (ad 6 tj)] (jS z n V) (jRet (some (.int (mtc V ti tj c4))) (jS z n V)) := by
  refine j_enter RX3 [some (.ref (ad 6 ti)), some (.ref (ad 6 tj)), none] rfl (by decide) (by simp [Value.category]) (Nat.le_of_ble_eq_true rfl) rfl ?_
  intro p e s m args below meth c K hnm hX
  have lp : V 6 ti 3 = V 6 tj 3 → ∀ (k j : Nat), j ≤ c4 → c4 < j + k → mtB V ti tj j = true → jW p l e (jRm 0 0 0) s m args below meth c D ca q0 ad 3 (jZ below args s D ca q0 ad 0 0 (jRet (some (.int (mtc V ti tj c4))) (jS z n V))) 0 0 15 [some (.ref (ad 6 ti)), some (.ref (ad 6 tj)), some (.int (nI j))] [] (jS z n V) := by
    intro he k
    induction k with
    | zero => intro j hj1 hj2; exact absurd hj2 (by omega)
    | succ k ih =>
      intro j hj1 hj2 hm
      refine j_iload_n K 2 dX3_matches_15 rfl rfl ?_
      refine j_aload_n K 0 dX3_matches_16 rfl rfl ?_
      refine jGi K dX3_matches_17 f_X3_22 rfl ht rfl ?_
      refine j_icmp_ge K 76 dX3_matches_20 (by decide) (fun h_20 => ?_) (fun h_20 => ?_)
      · have hj9 := nle1 h_20 hw rfl (by omega) (by omega)
        have hj : j = c4 := by omega
        subst hj
        refine j_iconst K 1 dX3_matches_76 rfl ?_
        refine j_zret K dX3_matches_77 (by simp) ?_
        exact jret_I (by unfold mtc; rw [if_pos ⟨he, hm⟩])
      · have hj3 : j < c4 := nle0 h_20 hw rfl (by omega) (by omega)
        refine j_aload_n K 0 dX3_matches_23 rfl rfl ?_
        refine jGr K 7 ti dX3_matches_24 f_X3_9 rfl ht rfl rfl ?_
        refine j_iload_n K 2 dX3_matches_27 rfl rfl ?_
        refine jIald K (j) dX3_matches_28 rfl ht rfl (by omega) ?_
        refine j_aload_n K 1 dX3_matches_29 rfl rfl ?_
        refine jGr K 7 tj dX3_matches_30 f_X3_9 rfl hu rfl rfl ?_
        refine j_iload_n K 2 dX3_matches_33 rfl rfl ?_
        refine jIald K (j) dX3_matches_34 rfl hu rfl (by omega) ?_
        refine j_icmp_ne K 68 dX3_matches_35 (by decide) (fun h_35 => ?_) (fun h_35 => ?_)
        · refine j_iconst K 0 dX3_matches_68 rfl ?_
          refine j_zret K dX3_matches_69 (by simp) ?_
          have hf : mtB V ti tj (j + 1) = false := by
            first
            | (have a1 : ¬ V 7 ti j = V 7 tj j := h_35; simp [mtB, a1]; done)
            | (have a1 : ¬ V 8 ti j = V 8 tj j := h_50; simp [mtB, a1]; done)
            | (have a1 : ¬ V 9 ti j = V 9 tj j := h_65; simp [mtB, a1]; done)
          exact jret_I (by unfold mtc; rw [if_neg fun q => by rw [mtB_no hf c4 hj3] at q; exact absurd q.2 (by decide)])
        · refine j_aload_n K 0 dX3_matches_38 rfl rfl ?_
          refine jGr K 8 ti dX3_matches_39 f_X3_15 rfl ht rfl rfl ?_
          refine j_iload_n K 2 dX3_matches_42 rfl rfl ?_
          refine jIald K (j) dX3_matches_43 rfl ht rfl (by omega) ?_
          refine j_aload_n K 1 dX3_matches_44 rfl rfl ?_
          refine jGr K 8 tj dX3_matches_45 f_X3_15 rfl hu rfl rfl ?_
          refine j_iload_n K 2 dX3_matches_48 rfl rfl ?_
          refine jIald K (j) dX3_matches_49 rfl hu rfl (by omega) ?_
          refine j_icmp_ne K 68 dX3_matches_50 (by decide) (fun h_50 => ?_) (fun h_50 => ?_)
          · refine j_iconst K 0 dX3_matches_68 rfl ?_
            refine j_zret K dX3_matches_69 (by simp) ?_
            have hf : mtB V ti tj (j + 1) = false := by
              first
              | (have a1 : ¬ V 7 ti j = V 7 tj j := h_35; simp [mtB, a1]; done)
              | (have a1 : ¬ V 8 ti j = V 8 tj j := h_50; simp [mtB, a1]; done)
              | (have a1 : ¬ V 9 ti j = V 9 tj j := h_65; simp [mtB, a1]; done)
            exact jret_I (by unfold mtc; rw [if_neg fun q => by rw [mtB_no hf c4 hj3] at q; exact absurd q.2 (by decide)])
          · refine j_aload_n K 0 dX3_matches_53 rfl rfl ?_
            refine jGr K 9 ti dX3_matches_54 f_X3_18 rfl ht rfl rfl ?_
            refine j_iload_n K 2 dX3_matches_57 rfl rfl ?_
            refine jZald K (j) dX3_matches_58 rfl ht rfl (by omega) ?_
            refine j_aload_n K 1 dX3_matches_59 rfl rfl ?_
            refine jGr K 9 tj dX3_matches_60 f_X3_18 rfl hu rfl rfl ?_
            refine j_iload_n K 2 dX3_matches_63 rfl rfl ?_
            refine jZald K (j) dX3_matches_64 rfl hu rfl (by omega) ?_
            refine j_icmp_eq K 70 dX3_matches_65 (by decide) (fun h_65 => ?_) (fun h_65 => ?_)
            · refine j_iinc (v := nI (j + 1)) K dX3_matches_70 rfl (by decide) (nI_1 _) ?_
              refine j_goto K 15 dX3_matches_73 (by decide) ?_
              exact ih (j + 1) (by omega) (by omega) (by have a1 : V 7 ti j = V 7 tj j := h_35; have a2 : V 8 ti j = V 8 tj j := h_50; have a3 : V 9 ti j = V 9 tj j := h_65; simp [mtB, hm, a1, a2, a3])
            · refine j_iconst K 0 dX3_matches_68 rfl ?_
              refine j_zret K dX3_matches_69 (by simp) ?_
              have hf : mtB V ti tj (j + 1) = false := by
                first
                | (have a1 : ¬ V 7 ti j = V 7 tj j := h_35; simp [mtB, a1]; done)
                | (have a1 : ¬ V 8 ti j = V 8 tj j := h_50; simp [mtB, a1]; done)
                | (have a1 : ¬ V 9 ti j = V 9 tj j := h_65; simp [mtB, a1]; done)
              exact jret_I (by unfold mtc; rw [if_neg fun q => by rw [mtB_no hf c4 hj3] at q; exact absurd q.2 (by decide)])
  refine j_aload_n K 0 dX3_matches_0 rfl rfl ?_
  refine jGi K dX3_matches_1 f_X3_22 rfl ht rfl ?_
  refine j_aload_n K 1 dX3_matches_4 rfl rfl ?_
  refine jGi K dX3_matches_5 f_X3_22 rfl hu rfl ?_
  refine j_icmp_eq K 13 dX3_matches_8 (by decide) (fun h_8 => ?_) (fun h_8 => ?_)
  · refine j_iconst K 0 dX3_matches_13 rfl ?_
    refine j_istore_n K 2 dX3_matches_14 rfl (by decide) ?_
    exact lp h_8 (c4 + 1) 0 (by omega) (by omega) rfl
  · refine j_iconst K 0 dX3_matches_11 rfl ?_
    refine j_zret K dX3_matches_12 (by simp) ?_
    exact jret_I (by unfold mtc; rw [if_neg fun q => h_8 q.1])
