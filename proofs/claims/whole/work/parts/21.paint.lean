theorem XI_congr {n : Nat} {V V' : jV} (h : XI n V) (e : ∀ k i j, (k = 11 ∨ k = 12 ∨ (k = 6 ∧ i < n) ∨ (k = 4 ∧ j = 1) ∨ (k = 0 ∧ (j = 1 ∨ j = 8))) → V' k i j = V k i j) : XI n V' := by
  obtain ⟨h1, h2, h3, h4, h5, h6⟩ := h
  refine ⟨h1, ?_, fun i hi => ?_, fun i hi => ?_, fun q hq => ?_, ?_⟩
  · rw [e 0 0 1 (by simp)]; exact h2
  · have h7 := h3 i hi
    unfold RI at h7 ⊢
    rw [e 11 i 3 (by simp)]
    refine ⟨h7.1, h7.2.1, fun j hj => ?_⟩
    rw [e 12 i j (by simp)]; exact h7.2.2 j hj
  · rw [e 6 i 3 (by simp [hi])]; exact h4 i hi
  · rw [e 4 q 1 (by simp)]; exact h5 q hq
  · rw [e 0 0 8 (by simp)]; exact h6
theorem RI_tn {V : jV} {i q : Nat} (h : RI V i q) : RI V i (tn (V 11 i 3)) := by
  have : tn (V 11 i 3) = q := by rw [h.1, tn_nI (by have := h.2.1; omega)]
  rw [this]; exact h
theorem RI_congr {V V' : jV} {i q : Nat} (h : RI V i q) (e : ∀ j, V' 11 i j = V 11 i j) (e2 : ∀ j, V' 12 i j = V 12 i j) : RI V' i q := by
  unfold RI at h ⊢
  rw [e 3]
  exact ⟨h.1, h.2.1, fun j hj => by rw [e2 j]; exact h.2.2 j hj⟩
/-- the reports for one pier have changed, no more that counts -/
theorem XI_rep {n a q : Nat} {V V' : jV} (h : XI n V) (e : ∀ k i j, ((k = 11 ∨ k = 12) ∧ i ≠ a ∨ (k = 6 ∧ i < n) ∨ (k = 4 ∧ j = 1) ∨ (k = 0 ∧ (j = 1 ∨ j = 8))) → V' k i j = V k i j) (hR : RI V' a q) : XI n V' := by
  obtain ⟨h1, h2, h3, h4, h5, h6⟩ := h
  refine ⟨h1, ?_, fun i hi => ?_, fun i hi => ?_, fun q hq => ?_, ?_⟩
  · rw [e 0 0 1 (by simp)]; exact h2
  · by_cases hia : i = a
    · subst hia; exact RI_tn hR
    · have := RI_congr (h3 i hi) (V' := V') (fun j => e 11 i j (by simp [hia])) (fun j => e 12 i j (by simp [hia]))
      exact RI_tn this
  · rw [e 6 i 3 (by simp [hi])]; exact h4 i hi
  · rw [e 4 q 1 (by simp)]; exact h5 q hq
  · rw [e 0 0 8 (by simp)]; exact h6
theorem XI_fil6 {n i cnt : Nat} {V : jV} {d : Int32} (h : XI n V) : XI n (filV V 6 i cnt d) :=
  XI_congr h (fun k a j hk => fil_other (by have := h.1; omega))
theorem wcnt_le (m h : Int32) : wcnt m h ≤ 4 := fidx_le _ _
theorem fil_cnt {V : jV} {ti i cnt : Nat} {d : Int32} : ∃ g, g ≤ 4 ∧ filV V ti i cnt d 6 ti 3 = nI g := ⟨_, wcnt_le _ _, tab_cnt⟩
theorem XI_beg {n i cnt : Nat} {V : jV} {d : Int32} (h : XI n V) : XI n (begV V i cnt d) := by
  obtain ⟨h1, h2, h3, h4, h5, h6⟩ := h
  have e : ∀ k a j, (k = 11 ∨ k = 12 ∨ (k = 6 ∧ a ≠ i) ∨ k = 4 ∨ k = 0) → begV V i cnt d k a j = V k a j := by
    intro k a j hk
    have : begV V i cnt d k a j = filV V i i cnt d k a j := by
      unfold begV up stv
      grind
    rw [this]
    exact fil_other (by omega)
  refine ⟨h1, ?_, fun a ha => ?_, fun a ha => ?_, fun q hq => ?_, ?_⟩
  · rw [e 0 0 1 (by simp)]; exact h2
  · exact RI_tn (RI_congr (h3 a ha) (fun j => e 11 a j (by simp)) (fun j => e 12 a j (by simp)))
  · by_cases hai : a = i
    · subst hai
      have : begV V a cnt d 6 a 3 = filV V a a cnt d 6 a 3 := by simp [begV, up, stv]
      obtain ⟨g, hg, hg2⟩ := fil_cnt (V := V) (ti := a) (i := a) (cnt := cnt) (d := d)
      rw [this, hg2, tn_nI (by omega)]
      exact ⟨rfl, hg⟩
    · rw [e 6 a 3 (by simp [hai])]; exact h4 a ha
  · rw [e 4 q 1 (by simp)]; exact h5 q hq
  · rw [e 0 0 8 (by simp)]; exact h6
theorem XI_job {n a : Nat} {V : jV} (h : XI n V) (ha : a < n) : XI n (up V 0 0 8 (nI a)) := by
  obtain ⟨h1, h2, h3, h4, h5, h6⟩ := h
  refine ⟨h1, by simpa [up] using h2, fun i hi => RI_tn (RI_up (h3 i hi) (by decide) (by decide)), fun i hi => by simpa [up] using h4 i hi, fun q hq => by simpa [up] using h5 q hq, Or.inr ?_⟩
  have : up V 0 0 8 (nI a) 0 0 8 = nI a := by simp [up]
  rw [this, tn_nI (by omega)]
  exact ⟨rfl, ha⟩
theorem XI_nojob {n : Nat} {V : jV} (h : XI n V) : XI n (up V 0 0 8 (-1)) := by
  obtain ⟨h1, h2, h3, h4, h5, h6⟩ := h
  exact ⟨h1, by simpa [up] using h2, fun i hi => RI_tn (RI_up (h3 i hi) (by decide) (by decide)), fun i hi => by simpa [up] using h4 i hi, fun q hq => by simpa [up] using h5 q hq, Or.inl (by simp [up])⟩
theorem XI_up {n k a b : Nat} {V : jV} {x : Int32} (h : XI n V) (hk : k ≠ 11 ∧ k ≠ 12 ∧ k ≠ 6 ∧ k ≠ 4 ∧ k ≠ 0) : XI n (up V k a b x) :=
  XI_congr h (fun k' i j h' => by unfold up; rw [if_neg (by omega)])
theorem XI_bfo {n : Nat} {V : jV} (h : XI n V) : XI n (bfo n V) := by
  unfold bfo
  split
  · rename_i hlt
    exact XI_job (XI_up (XI_beg h) (by decide)) hlt
  · exact h
theorem tk_1 {V : jV} {q g c0 : Nat} {x : Int32} : tkV V q x g c0 4 q 1 = V 4 q 1 - nI (if V 5 q g - x = 0 then g + 1 else g) := by
  unfold tkV rmoF rmoV up; simp
theorem tk_other {V : jV} {q g c0 : Nat} {x : Int32} {k a j : Nat} (h : a ≠ q ∨ (k ≠ 4 ∧ k ≠ 5)) : tkV V q x g c0 k a j = V k a j := by
  unfold tkV rmoF rmoV up; grind
theorem XI_tk {n q g c0 : Nat} {V : jV} {x : Int32} (h : XI n V) (hg : g < c0) (hc : V 4 q 1 = nI c0) (hc12 : c0 ≤ 12) : XI n (tkV V q x g c0) := by
  obtain ⟨h1, h2, h3, h4, h5, h6⟩ := h
  refine ⟨h1, ?_, fun i hi => RI_tn (RI_congr (h3 i hi) (fun j => tk_other (by simp)) (fun j => tk_other (by simp))), fun i hi => ?_, fun b hb => ?_, ?_⟩
  · rw [tk_other (by simp)]; exact h2
  · rw [tk_other (by simp)]; exact h4 i hi
  · by_cases hbq : b = q
    · subst hbq
      have ht : (if V 5 b g - x = 0 then g + 1 else g) ≤ c0 := by split <;> omega
      rw [tk_1, hc, pk_sub ht, tn_nI (by omega)]
      exact ⟨rfl, by omega⟩
    · rw [tk_other (Or.inl hbq)]; exact h5 b hb
  · rw [tk_other (by simp)]; exact h6
theorem blt_other {V : jV} {i c0 k a j : Nat} (h : k ≠ 16) : blt V i c0 k a j = V k a j := by
  induction c0 with
  | zero => rfl
  | succ c0 ih =>
    unfold blt
    split
    · unfold up; rw [if_neg fun q => h q.1]
    · exact ih
theorem drp_other {V : jV} {i c0 k a j : Nat} {r : Int32} (h : k ≠ 16) (h2 : k ≠ 15) : drpV V i c0 r k a j = V k a j := by
  unfold drpV
  split
  · unfold up; rw [if_neg fun q => h2 q.1]
  · rw [blt_other h]; unfold up; rw [if_neg fun q => h2 q.1, if_neg fun q => h2 q.1]
/-- a line painted: the job's pier a, its line j, the tins q, of which the tin g of c0 is taken from -/
def pnD (V : jV) (a j q g c0 : Nat) : jV :=
  let V1 := up (up (tkV V q (5 + V 10 a 4) g c0) 0 0 9 (V 0 0 9 + 5)) 0 0 10 (V 0 0 10 + V 10 a 4)
  let V2 := drpV (mrdV V1 a j (V 0 0 7)) a (tn (V 6 a 3)) (V 10 a 4)
  if j = 0 then up V2 0 0 8 (-1) else V2
/-- the tins that a line wants -/
def pnQ (V : jV) (a j : Nat) : Nat := if V 9 a j = 0 then 1 else 0
def pnG (V : jV) (a q : Nat) : Nat := fidx (fun j => decide (5 + V 10 a 4 ≤ V 5 q j)) (tn (V 4 q 1))
def pn2 (V : jV) : jV × Bool :=
  if V 0 0 8 = -1 then (V, false) else
  let a := tn (V 0 0 8)
  let b := bln V a (tn (V 6 a 3))
  if b = 0 then (V, false) else
  let q := pnQ V a (b - 1)
  if pnG V a q < tn (V 4 q 1) then (pnD V a (b - 1) q (pnG V a q) (tn (V 4 q 1)), true) else (V, false)
def pnl (n : Nat) (V : jV) : jV × Bool := pn2 (if V 0 0 8 = -1 then bfo n V else V)
theorem pnQ_lt (V : jV) (a j : Nat) : pnQ V a j < 2 := by unfold pnQ; split <;> omega
theorem XI_pnD {n a j q g c0 : Nat} {V : jV} (h : XI n V) (hg : g < c0) (hc : V 4 q 1 = nI c0) (hc12 : c0 ≤ 12) : XI n (pnD V a j q g c0) := by
  have h1 : XI n (drpV (mrdV (up (up (tkV V q (5 + V 10 a 4) g c0) 0 0 9 (V 0 0 9 + 5)) 0 0 10 (V 0 0 10 + V 10 a 4)) a j (V 0 0 7)) a (tn (V 6 a 3)) (V 10 a 4)) := by
    refine XI_congr (XI_tk (x := 5 + V 10 a 4) h hg hc hc12) (fun k i b hk => ?_)
    rw [drp_other (by omega) (by omega)]
    unfold mrdV up
    grind
  unfold pnD
  split
  · exact XI_nojob h1
  · exact h1
theorem XI_pn2 {n : Nat} {V : jV} (h : XI n V) : XI n (pn2 V).1 := by
  unfold pn2
  split
  · exact h
  · dsimp only
    split
    · exact h
    · split
      · rename_i hg
        have hq := h.2.2.2.2.1 _ (pnQ_lt V (tn (V 0 0 8)) (bln V (tn (V 0 0 8)) (tn (V 6 (tn (V 0 0 8)) 3)) - 1))
        exact XI_pnD h hg hq.1 hq.2
      · exact h
theorem XI_pnl {n : Nat} {V : jV} (h : XI n V) : XI n (pnl n V).1 := by
  unfold pnl
  split
  · exact XI_pn2 (XI_bfo h)
  · exact XI_pn2 h
set_option maxRecDepth 20000 in
set_option maxHeartbeats 400000 in
theorem c_X5_paintNextLine {l : Launch} {D : va_G} {ca : Nat → ClassId} {q0 : Nat} {sa : Nat → Nat} {ad : jAd} {z n : Nat} {V : jV} (hI : XI n V)  : jMet l D ca q0 sa ad yX5_paintNextLine cX5_paintNextLine 3 (some .boolean) 5 0 0 [.ref (ad 0 0)] (jS z n V) (jRet (some (.int (bI (pnl n V).2))) (jS z n (pnl n V).1)) := by
  refine j_enter RX5 [some (.ref (ad 0 0)), none, none] rfl (by decide) (by simp [Value.category]) (Nat.le_of_ble_eq_true rfl) rfl ?_
  intro p e s m args below meth c K hnm hX
  have hn6 := hI.1
  have rest : ∀ (U : jV), XI n U → pn2 U = pnl n V → jW p l e (jRm 5 0 0) s m args below meth c D ca q0 ad 3 (jZ below args s D ca q0 ad 0 0 (jRet (some (.int (bI (pnl n V).2))) (jS z n (pnl n V).1))) 0 0 12 [some (.ref (ad 0 0)), none, none] [] (jS z n U) := by
    intro U hU hE
    rw [← hE]
    by_cases hj : U 0 0 8 = -1
    · refine j_aload_n K 0 dX5_paintNextLine_12 rfl rfl ?_
      refine jGi K dX5_paintNextLine_13 f_X5_46 rfl rfl rfl ?_
      refine j_iconst K (-1) dX5_paintNextLine_16 rfl ?_
      refine j_icmp_ne K 22 dX5_paintNextLine_17 (by decide) (fun h_17 => ?_) (fun h_17 => ?_)
      · exact absurd hj h_17
      · refine j_iconst K 0 dX5_paintNextLine_20 rfl ?_
        refine j_zret K dX5_paintNextLine_21 (by simp) ?_
        have h9 : pn2 U = (U, false) := by unfold pn2; rw [if_pos hj]
        rw [h9]; exact ⟨rfl, rfl⟩
    · obtain ⟨hjn, han⟩ := hU.2.2.2.2.2.resolve_left hj
      have ha9 : ∃ a, tn (U 0 0 8) = a := ⟨_, rfl⟩
      obtain ⟨a, hta⟩ := ha9
      rw [hta] at hjn han
      have hl : decide (a < n) = true := decide_eq_true han
      have ht : LV n 6 a = true := lv_pier han
      obtain ⟨hw, hw4⟩ := hU.2.2.2.1 a han
      have hb9 : ∃ b, bln U a (tn (U 6 a 3)) = b := ⟨_, rfl⟩
      obtain ⟨b, hb⟩ := hb9
      have hb4 := bln_le U a (tn (U 6 a 3))
      have hp2 : pn2 U = if b = 0 then (U, false) else if pnG U a (pnQ U a (b - 1)) < tn (U 4 (pnQ U a (b - 1)) 1) then (pnD U a (b - 1) (pnQ U a (b - 1)) (pnG U a (pnQ U a (b - 1))) (tn (U 4 (pnQ U a (b - 1)) 1)), true) else (U, false) := by
        unfold pn2; rw [if_neg hj, hta]; dsimp only; rw [hb]
      by_cases hb0 : b = 0
      · rw [if_pos hb0] at hp2
        rw [hp2]
        refine j_aload_n K 0 dX5_paintNextLine_12 rfl rfl ?_
        refine jGi K dX5_paintNextLine_13 f_X5_46 rfl rfl rfl ?_
        refine j_iconst K (-1) dX5_paintNextLine_16 rfl ?_
        refine j_icmp_ne K 22 dX5_paintNextLine_17 (by decide) (fun h_17 => ?_) (fun h_17 => ?_)
        · refine j_aload_n K 0 dX5_paintNextLine_22 rfl rfl ?_
          refine jGr K 1 0 dX5_paintNextLine_23 f_X5_11 rfl rfl rfl rfl ?_
          refine j_aload_n K 0 dX5_paintNextLine_26 rfl rfl ?_
          refine jGi K dX5_paintNextLine_27 f_X5_46 rfl rfl rfl ?_
          refine jAald K (a) 10 (a) dX5_paintNextLine_30 rfl rfl hjn (by omega) (rf_pier (by omega)) ?_
          refine j_astore_n K 1 dX5_paintNextLine_31 rfl (by decide) ?_
          refine j_aload_n K 1 dX5_paintNextLine_32 rfl rfl ?_
          refine jGr K 15 a dX5_paintNextLine_33 f_X5_79 rfl hl rfl rfl ?_
          refine j_cV0r K dX5_paintNextLine_36 m_X0_blankLines v_X0_blankLines k_X5_198 rfl ⟨by decide, rfl⟩ hl (c_X0_blankLines hl ht hw hw4) (Nat.le_of_ble_eq_true rfl) ⟨by decide, by decide⟩ (by decide) (by decide) ?_
          refine j_iconst K 1 dX5_paintNextLine_39 rfl ?_
          refine j_isub K dX5_paintNextLine_40 ?_
          refine j_istore_n K 2 dX5_paintNextLine_41 rfl (by decide) ?_
          refine j_iload_n K 2 dX5_paintNextLine_42 rfl rfl ?_
          refine j_if_lt K 67 dX5_paintNextLine_43 (by decide) (fun h_43 => ?_) (fun h_43 => ?_)
          · refine j_iconst K 0 dX5_paintNextLine_67 rfl ?_
            refine j_zret K dX5_paintNextLine_68 (by simp) ?_
            exact ⟨rfl, rfl⟩
          · exact absurd (show nI (bln U a (tn (U 6 a 3))) - 1 < 0 by rw [hb, hb0]; decide) h_43
        · exact absurd h_17 hj
      · rw [if_neg hb0] at hp2
        have hb1 : nI (bln U a (tn (U 6 a 3))) - 1 = nI (b - 1) := by rw [hb]; exact pk_sub (b := 1) (by omega)
        have hqd : ∃ q, pnQ U a (b - 1) = q := ⟨_, rfl⟩
        obtain ⟨q, hq9⟩ := hqd
        rw [hq9] at hp2
        have hq2 : q < 2 := by rw [← hq9]; exact pnQ_lt _ _ _
        have hq : decide (q < 2) = true := decide_eq_true hq2
        obtain ⟨hc, hc12⟩ := hU.2.2.2.2.1 q hq2
        have hgd : ∃ g, pnG U a q = g := ⟨_, rfl⟩
        obtain ⟨g, hg9⟩ := hgd
        rw [hg9] at hp2
        by_cases hk : U 9 a (b - 1) = 0
        · have hqq : q = 1 := by rw [← hq9]; unfold pnQ; rw [if_pos hk]
          subst hqq
          by_cases hgc : g < tn (U 4 1 1)
          · rw [if_pos hgc] at hp2
            rw [hp2]
            have hw9 : tkV U 1 (5 + U 10 a 4) g (tn (U 4 1 1)) 6 a 3 = nI (tn (U 6 a 3)) := by rw [tk_other (by simp)]; exact hw
            refine j_aload_n K 0 dX5_paintNextLine_12 rfl rfl ?_
            refine jGi K dX5_paintNextLine_13 f_X5_46 rfl rfl rfl ?_
            refine j_iconst K (-1) dX5_paintNextLine_16 rfl ?_
            refine j_icmp_ne K 22 dX5_paintNextLine_17 (by decide) (fun h_17 => ?_) (fun h_17 => ?_)
            · refine j_aload_n K 0 dX5_paintNextLine_22 rfl rfl ?_
              refine jGr K 1 0 dX5_paintNextLine_23 f_X5_11 rfl rfl rfl rfl ?_
              refine j_aload_n K 0 dX5_paintNextLine_26 rfl rfl ?_
              refine jGi K dX5_paintNextLine_27 f_X5_46 rfl rfl rfl ?_
              refine jAald K (a) 10 (a) dX5_paintNextLine_30 rfl rfl hjn (by omega) (rf_pier (by omega)) ?_
              refine j_astore_n K 1 dX5_paintNextLine_31 rfl (by decide) ?_
              refine j_aload_n K 1 dX5_paintNextLine_32 rfl rfl ?_
              refine jGr K 15 a dX5_paintNextLine_33 f_X5_79 rfl hl rfl rfl ?_
              refine j_cV0r K dX5_paintNextLine_36 m_X0_blankLines v_X0_blankLines k_X5_198 rfl ⟨by decide, rfl⟩ hl (c_X0_blankLines hl ht hw hw4) (Nat.le_of_ble_eq_true rfl) ⟨by decide, by decide⟩ (by decide) (by decide) ?_
              refine j_iconst K 1 dX5_paintNextLine_39 rfl ?_
              refine j_isub K dX5_paintNextLine_40 ?_
              refine j_istore_n K 2 dX5_paintNextLine_41 rfl (by decide) ?_
              refine j_iload_n K 2 dX5_paintNextLine_42 rfl rfl ?_
              refine j_if_lt K 67 dX5_paintNextLine_43 (by decide) (fun h_43 => ?_) (fun h_43 => ?_)
              · exact absurd h_43 (by rw [hb1]; exact nI_pos (by omega))
              · refine j_aload_n K 0 dX5_paintNextLine_46 rfl rfl ?_
                refine j_aload_n K 1 dX5_paintNextLine_47 rfl rfl ?_
                refine jGr K 15 a dX5_paintNextLine_48 f_X5_79 rfl hl rfl rfl ?_
                refine j_iload_n K 2 dX5_paintNextLine_51 rfl rfl ?_
                refine j_cV2r K dX5_paintNextLine_52 m_X5_tinsForLine v_X5_tinsForLine k_X5_212 rfl ⟨by decide, rfl⟩ rfl (c_tL1 _ hl ht hb1 (by omega) hk) (Nat.le_of_ble_eq_true rfl) ⟨by decide, by decide⟩ (by decide) (by decide) ?_
                refine j_iconst K 5 dX5_paintNextLine_55 rfl ?_
                refine j_aload_n K 1 dX5_paintNextLine_56 rfl rfl ?_
                refine jGi K dX5_paintNextLine_57 f_X5_279 rfl hl rfl ?_
                refine j_iadd K dX5_paintNextLine_60 ?_
                refine j_cV1r K dX5_paintNextLine_61 m_X4_take v_X4_take k_X5_216 rfl ⟨by decide, rfl⟩ rfl (c_X4_take_ok _ hq hc hc12 hg9 hgc) (Nat.le_of_ble_eq_true rfl) ⟨by decide, by decide⟩ (by decide) (by decide) ?_
                refine j_if_ne K 69 dX5_paintNextLine_64 (by decide) (fun h_64 => ?_) (fun h_64 => absurd h_64 (by decide))
                refine j_aload_n K 0 dX5_paintNextLine_69 rfl rfl ?_
                refine j_dup K dX5_paintNextLine_70 rfl ?_
                refine jGi K dX5_paintNextLine_71 f_X5_49 rfl rfl rfl ?_
                refine j_iconst K 5 dX5_paintNextLine_74 rfl ?_
                refine j_iadd K dX5_paintNextLine_75 ?_
                refine jPi K dX5_paintNextLine_76 fo_X5_49 rfl rfl rfl rfl (Or.inl rfl) ?_
                refine j_aload_n K 0 dX5_paintNextLine_79 rfl rfl ?_
                refine j_dup K dX5_paintNextLine_80 rfl ?_
                refine jGi K dX5_paintNextLine_81 f_X5_52 rfl rfl rfl ?_
                refine j_aload_n K 1 dX5_paintNextLine_84 rfl rfl ?_
                refine jGi K dX5_paintNextLine_85 f_X5_279 rfl hl rfl ?_
                refine j_iadd K dX5_paintNextLine_88 ?_
                refine jPi K dX5_paintNextLine_89 fo_X5_52 rfl rfl rfl rfl (Or.inl rfl) ?_
                refine j_aload_n K 1 dX5_paintNextLine_92 rfl rfl ?_
                refine jGr K 15 a dX5_paintNextLine_93 f_X5_79 rfl hl rfl rfl ?_
                refine j_iload_n K 2 dX5_paintNextLine_96 rfl rfl ?_
                refine j_aload_n K 0 dX5_paintNextLine_97 rfl rfl ?_
                refine jGi K dX5_paintNextLine_98 f_X5_43 rfl rfl rfl ?_
                refine j_cV2n K dX5_paintNextLine_101 m_X0_makeReadable v_X0_makeReadable k_X5_222 rfl ⟨by decide, rfl⟩ hl (c_X0_makeReadable _ _ hl hb1 (by omega)) (Nat.le_of_ble_eq_true rfl) ⟨by decide, by decide⟩ (by decide) (by decide) ?_
                refine j_aload_n K 1 dX5_paintNextLine_104 rfl rfl ?_
                refine jGr K 15 a dX5_paintNextLine_105 f_X5_79 rfl hl rfl rfl ?_
                refine j_aload_n K 1 dX5_paintNextLine_108 rfl rfl ?_
                refine jGi K dX5_paintNextLine_109 f_X5_279 rfl hl rfl ?_
                refine j_cV1n K dX5_paintNextLine_112 m_X0_drip v_X0_drip k_X5_292 rfl ⟨by decide, rfl⟩ hl (c_X0_drip _ hl ht hw9 hw4) (Nat.le_of_ble_eq_true rfl) ⟨by decide, by decide⟩ (by decide) (by decide) ?_
                refine j_iload_n K 2 dX5_paintNextLine_115 rfl rfl ?_
                refine j_if_ne K 124 dX5_paintNextLine_116 (by decide) (fun h_116 => ?_) (fun h_116 => ?_)
                · refine j_iconst K 1 dX5_paintNextLine_124 rfl ?_
                  refine j_zret K dX5_paintNextLine_125 (by simp) ?_
                  refine jret_V (fun _ _ _ => ?_)
                  unfold pnD
                  dsimp only
                  rw [if_neg (show ¬ b - 1 = 0 from fun e => h_116 (by rw [hb1, e]; rfl))]
                  rfl
                · refine j_aload_n K 0 dX5_paintNextLine_119 rfl rfl ?_
                  refine j_iconst K (-1) dX5_paintNextLine_120 rfl ?_
                  refine jPi K dX5_paintNextLine_121 fo_X5_46 rfl rfl rfl rfl (Or.inl rfl) ?_
                  refine j_iconst K 1 dX5_paintNextLine_124 rfl ?_
                  refine j_zret K dX5_paintNextLine_125 (by simp) ?_
                  refine jret_V (fun _ _ _ => ?_)
                  unfold pnD
                  dsimp only
                  rw [if_pos (show b - 1 = 0 from (neq (by omega) (by decide) hb1 (b := 0) rfl).mp h_116)]
                  rfl
            · exact absurd h_17 hj
          · rw [if_neg hgc] at hp2
            rw [hp2]
            refine j_aload_n K 0 dX5_paintNextLine_12 rfl rfl ?_
            refine jGi K dX5_paintNextLine_13 f_X5_46 rfl rfl rfl ?_
            refine j_iconst K (-1) dX5_paintNextLine_16 rfl ?_
            refine j_icmp_ne K 22 dX5_paintNextLine_17 (by decide) (fun h_17 => ?_) (fun h_17 => ?_)
            · refine j_aload_n K 0 dX5_paintNextLine_22 rfl rfl ?_
              refine jGr K 1 0 dX5_paintNextLine_23 f_X5_11 rfl rfl rfl rfl ?_
              refine j_aload_n K 0 dX5_paintNextLine_26 rfl rfl ?_
              refine jGi K dX5_paintNextLine_27 f_X5_46 rfl rfl rfl ?_
              refine jAald K (a) 10 (a) dX5_paintNextLine_30 rfl rfl hjn (by omega) (rf_pier (by omega)) ?_
              refine j_astore_n K 1 dX5_paintNextLine_31 rfl (by decide) ?_
              refine j_aload_n K 1 dX5_paintNextLine_32 rfl rfl ?_
              refine jGr K 15 a dX5_paintNextLine_33 f_X5_79 rfl hl rfl rfl ?_
              refine j_cV0r K dX5_paintNextLine_36 m_X0_blankLines v_X0_blankLines k_X5_198 rfl ⟨by decide, rfl⟩ hl (c_X0_blankLines hl ht hw hw4) (Nat.le_of_ble_eq_true rfl) ⟨by decide, by decide⟩ (by decide) (by decide) ?_
              refine j_iconst K 1 dX5_paintNextLine_39 rfl ?_
              refine j_isub K dX5_paintNextLine_40 ?_
              refine j_istore_n K 2 dX5_paintNextLine_41 rfl (by decide) ?_
              refine j_iload_n K 2 dX5_paintNextLine_42 rfl rfl ?_
              refine j_if_lt K 67 dX5_paintNextLine_43 (by decide) (fun h_43 => ?_) (fun h_43 => ?_)
              · exact absurd h_43 (by rw [hb1]; exact nI_pos (by omega))
              · refine j_aload_n K 0 dX5_paintNextLine_46 rfl rfl ?_
                refine j_aload_n K 1 dX5_paintNextLine_47 rfl rfl ?_
                refine jGr K 15 a dX5_paintNextLine_48 f_X5_79 rfl hl rfl rfl ?_
                refine j_iload_n K 2 dX5_paintNextLine_51 rfl rfl ?_
                refine j_cV2r K dX5_paintNextLine_52 m_X5_tinsForLine v_X5_tinsForLine k_X5_212 rfl ⟨by decide, rfl⟩ rfl (c_tL1 _ hl ht hb1 (by omega) hk) (Nat.le_of_ble_eq_true rfl) ⟨by decide, by decide⟩ (by decide) (by decide) ?_
                refine j_iconst K 5 dX5_paintNextLine_55 rfl ?_
                refine j_aload_n K 1 dX5_paintNextLine_56 rfl rfl ?_
                refine jGi K dX5_paintNextLine_57 f_X5_279 rfl hl rfl ?_
                refine j_iadd K dX5_paintNextLine_60 ?_
                refine j_cV1r K dX5_paintNextLine_61 m_X4_take v_X4_take k_X5_216 rfl ⟨by decide, rfl⟩ rfl (c_X4_take_no _ hq hc hc12 (by rw [show fidx (fun j => decide (5 + U 10 a 4 ≤ U 5 1 j)) (tn (U 4 1 1)) = g from hg9]; exact hgc)) (Nat.le_of_ble_eq_true rfl) ⟨by decide, by decide⟩ (by decide) (by decide) ?_
                refine j_if_ne K 69 dX5_paintNextLine_64 (by decide) (fun h_64 => absurd (by decide) h_64) (fun h_64 => ?_)
                refine j_iconst K 0 dX5_paintNextLine_67 rfl ?_
                refine j_zret K dX5_paintNextLine_68 (by simp) ?_
                exact ⟨rfl, rfl⟩
            · exact absurd h_17 hj
        · have hqq : q = 0 := by rw [← hq9]; unfold pnQ; rw [if_neg hk]
          subst hqq
          by_cases hgc : g < tn (U 4 0 1)
          · rw [if_pos hgc] at hp2
            rw [hp2]
            have hw9 : tkV U 0 (5 + U 10 a 4) g (tn (U 4 0 1)) 6 a 3 = nI (tn (U 6 a 3)) := by rw [tk_other (by simp)]; exact hw
            refine j_aload_n K 0 dX5_paintNextLine_12 rfl rfl ?_
            refine jGi K dX5_paintNextLine_13 f_X5_46 rfl rfl rfl ?_
            refine j_iconst K (-1) dX5_paintNextLine_16 rfl ?_
            refine j_icmp_ne K 22 dX5_paintNextLine_17 (by decide) (fun h_17 => ?_) (fun h_17 => ?_)
            · refine j_aload_n K 0 dX5_paintNextLine_22 rfl rfl ?_
              refine jGr K 1 0 dX5_paintNextLine_23 f_X5_11 rfl rfl rfl rfl ?_
              refine j_aload_n K 0 dX5_paintNextLine_26 rfl rfl ?_
              refine jGi K dX5_paintNextLine_27 f_X5_46 rfl rfl rfl ?_
              refine jAald K (a) 10 (a) dX5_paintNextLine_30 rfl rfl hjn (by omega) (rf_pier (by omega)) ?_
              refine j_astore_n K 1 dX5_paintNextLine_31 rfl (by decide) ?_
              refine j_aload_n K 1 dX5_paintNextLine_32 rfl rfl ?_
              refine jGr K 15 a dX5_paintNextLine_33 f_X5_79 rfl hl rfl rfl ?_
              refine j_cV0r K dX5_paintNextLine_36 m_X0_blankLines v_X0_blankLines k_X5_198 rfl ⟨by decide, rfl⟩ hl (c_X0_blankLines hl ht hw hw4) (Nat.le_of_ble_eq_true rfl) ⟨by decide, by decide⟩ (by decide) (by decide) ?_
              refine j_iconst K 1 dX5_paintNextLine_39 rfl ?_
              refine j_isub K dX5_paintNextLine_40 ?_
              refine j_istore_n K 2 dX5_paintNextLine_41 rfl (by decide) ?_
              refine j_iload_n K 2 dX5_paintNextLine_42 rfl rfl ?_
              refine j_if_lt K 67 dX5_paintNextLine_43 (by decide) (fun h_43 => ?_) (fun h_43 => ?_)
              · exact absurd h_43 (by rw [hb1]; exact nI_pos (by omega))
              · refine j_aload_n K 0 dX5_paintNextLine_46 rfl rfl ?_
                refine j_aload_n K 1 dX5_paintNextLine_47 rfl rfl ?_
                refine jGr K 15 a dX5_paintNextLine_48 f_X5_79 rfl hl rfl rfl ?_
                refine j_iload_n K 2 dX5_paintNextLine_51 rfl rfl ?_
                refine j_cV2r K dX5_paintNextLine_52 m_X5_tinsForLine v_X5_tinsForLine k_X5_212 rfl ⟨by decide, rfl⟩ rfl (c_tL0 _ hl ht hb1 (by omega) hk) (Nat.le_of_ble_eq_true rfl) ⟨by decide, by decide⟩ (by decide) (by decide) ?_
                refine j_iconst K 5 dX5_paintNextLine_55 rfl ?_
                refine j_aload_n K 1 dX5_paintNextLine_56 rfl rfl ?_
                refine jGi K dX5_paintNextLine_57 f_X5_279 rfl hl rfl ?_
                refine j_iadd K dX5_paintNextLine_60 ?_
                refine j_cV1r K dX5_paintNextLine_61 m_X4_take v_X4_take k_X5_216 rfl ⟨by decide, rfl⟩ rfl (c_X4_take_ok _ hq hc hc12 hg9 hgc) (Nat.le_of_ble_eq_true rfl) ⟨by decide, by decide⟩ (by decide) (by decide) ?_
                refine j_if_ne K 69 dX5_paintNextLine_64 (by decide) (fun h_64 => ?_) (fun h_64 => absurd h_64 (by decide))
                refine j_aload_n K 0 dX5_paintNextLine_69 rfl rfl ?_
                refine j_dup K dX5_paintNextLine_70 rfl ?_
                refine jGi K dX5_paintNextLine_71 f_X5_49 rfl rfl rfl ?_
                refine j_iconst K 5 dX5_paintNextLine_74 rfl ?_
                refine j_iadd K dX5_paintNextLine_75 ?_
                refine jPi K dX5_paintNextLine_76 fo_X5_49 rfl rfl rfl rfl (Or.inl rfl) ?_
                refine j_aload_n K 0 dX5_paintNextLine_79 rfl rfl ?_
                refine j_dup K dX5_paintNextLine_80 rfl ?_
                refine jGi K dX5_paintNextLine_81 f_X5_52 rfl rfl rfl ?_
                refine j_aload_n K 1 dX5_paintNextLine_84 rfl rfl ?_
                refine jGi K dX5_paintNextLine_85 f_X5_279 rfl hl rfl ?_
                refine j_iadd K dX5_paintNextLine_88 ?_
                refine jPi K dX5_paintNextLine_89 fo_X5_52 rfl rfl rfl rfl (Or.inl rfl) ?_
                refine j_aload_n K 1 dX5_paintNextLine_92 rfl rfl ?_
                refine jGr K 15 a dX5_paintNextLine_93 f_X5_79 rfl hl rfl rfl ?_
                refine j_iload_n K 2 dX5_paintNextLine_96 rfl rfl ?_
                refine j_aload_n K 0 dX5_paintNextLine_97 rfl rfl ?_
                refine jGi K dX5_paintNextLine_98 f_X5_43 rfl rfl rfl ?_
                refine j_cV2n K dX5_paintNextLine_101 m_X0_makeReadable v_X0_makeReadable k_X5_222 rfl ⟨by decide, rfl⟩ hl (c_X0_makeReadable _ _ hl hb1 (by omega)) (Nat.le_of_ble_eq_true rfl) ⟨by decide, by decide⟩ (by decide) (by decide) ?_
                refine j_aload_n K 1 dX5_paintNextLine_104 rfl rfl ?_
                refine jGr K 15 a dX5_paintNextLine_105 f_X5_79 rfl hl rfl rfl ?_
                refine j_aload_n K 1 dX5_paintNextLine_108 rfl rfl ?_
                refine jGi K dX5_paintNextLine_109 f_X5_279 rfl hl rfl ?_
                refine j_cV1n K dX5_paintNextLine_112 m_X0_drip v_X0_drip k_X5_292 rfl ⟨by decide, rfl⟩ hl (c_X0_drip _ hl ht hw9 hw4) (Nat.le_of_ble_eq_true rfl) ⟨by decide, by decide⟩ (by decide) (by decide) ?_
                refine j_iload_n K 2 dX5_paintNextLine_115 rfl rfl ?_
                refine j_if_ne K 124 dX5_paintNextLine_116 (by decide) (fun h_116 => ?_) (fun h_116 => ?_)
                · refine j_iconst K 1 dX5_paintNextLine_124 rfl ?_
                  refine j_zret K dX5_paintNextLine_125 (by simp) ?_
                  refine jret_V (fun _ _ _ => ?_)
                  unfold pnD
                  dsimp only
                  rw [if_neg (show ¬ b - 1 = 0 from fun e => h_116 (by rw [hb1, e]; rfl))]
                  rfl
                · refine j_aload_n K 0 dX5_paintNextLine_119 rfl rfl ?_
                  refine j_iconst K (-1) dX5_paintNextLine_120 rfl ?_
                  refine jPi K dX5_paintNextLine_121 fo_X5_46 rfl rfl rfl rfl (Or.inl rfl) ?_
                  refine j_iconst K 1 dX5_paintNextLine_124 rfl ?_
                  refine j_zret K dX5_paintNextLine_125 (by simp) ?_
                  refine jret_V (fun _ _ _ => ?_)
                  unfold pnD
                  dsimp only
                  rw [if_pos (show b - 1 = 0 from (neq (by omega) (by decide) hb1 (b := 0) rfl).mp h_116)]
                  rfl
            · exact absurd h_17 hj
          · rw [if_neg hgc] at hp2
            rw [hp2]
            refine j_aload_n K 0 dX5_paintNextLine_12 rfl rfl ?_
            refine jGi K dX5_paintNextLine_13 f_X5_46 rfl rfl rfl ?_
            refine j_iconst K (-1) dX5_paintNextLine_16 rfl ?_
            refine j_icmp_ne K 22 dX5_paintNextLine_17 (by decide) (fun h_17 => ?_) (fun h_17 => ?_)
            · refine j_aload_n K 0 dX5_paintNextLine_22 rfl rfl ?_
              refine jGr K 1 0 dX5_paintNextLine_23 f_X5_11 rfl rfl rfl rfl ?_
              refine j_aload_n K 0 dX5_paintNextLine_26 rfl rfl ?_
              refine jGi K dX5_paintNextLine_27 f_X5_46 rfl rfl rfl ?_
              refine jAald K (a) 10 (a) dX5_paintNextLine_30 rfl rfl hjn (by omega) (rf_pier (by omega)) ?_
              refine j_astore_n K 1 dX5_paintNextLine_31 rfl (by decide) ?_
              refine j_aload_n K 1 dX5_paintNextLine_32 rfl rfl ?_
              refine jGr K 15 a dX5_paintNextLine_33 f_X5_79 rfl hl rfl rfl ?_
              refine j_cV0r K dX5_paintNextLine_36 m_X0_blankLines v_X0_blankLines k_X5_198 rfl ⟨by decide, rfl⟩ hl (c_X0_blankLines hl ht hw hw4) (Nat.le_of_ble_eq_true rfl) ⟨by decide, by decide⟩ (by decide) (by decide) ?_
              refine j_iconst K 1 dX5_paintNextLine_39 rfl ?_
              refine j_isub K dX5_paintNextLine_40 ?_
              refine j_istore_n K 2 dX5_paintNextLine_41 rfl (by decide) ?_
              refine j_iload_n K 2 dX5_paintNextLine_42 rfl rfl ?_
              refine j_if_lt K 67 dX5_paintNextLine_43 (by decide) (fun h_43 => ?_) (fun h_43 => ?_)
              · exact absurd h_43 (by rw [hb1]; exact nI_pos (by omega))
              · refine j_aload_n K 0 dX5_paintNextLine_46 rfl rfl ?_
                refine j_aload_n K 1 dX5_paintNextLine_47 rfl rfl ?_
                refine jGr K 15 a dX5_paintNextLine_48 f_X5_79 rfl hl rfl rfl ?_
                refine j_iload_n K 2 dX5_paintNextLine_51 rfl rfl ?_
                refine j_cV2r K dX5_paintNextLine_52 m_X5_tinsForLine v_X5_tinsForLine k_X5_212 rfl ⟨by decide, rfl⟩ rfl (c_tL0 _ hl ht hb1 (by omega) hk) (Nat.le_of_ble_eq_true rfl) ⟨by decide, by decide⟩ (by decide) (by decide) ?_
                refine j_iconst K 5 dX5_paintNextLine_55 rfl ?_
                refine j_aload_n K 1 dX5_paintNextLine_56 rfl rfl ?_
                refine jGi K dX5_paintNextLine_57 f_X5_279 rfl hl rfl ?_
                refine j_iadd K dX5_paintNextLine_60 ?_
                refine j_cV1r K dX5_paintNextLine_61 m_X4_take v_X4_take k_X5_216 rfl ⟨by decide, rfl⟩ rfl (c_X4_take_no _ hq hc hc12 (by rw [show fidx (fun j => decide (5 + U 10 a 4 ≤ U 5 0 j)) (tn (U 4 0 1)) = g from hg9]; exact hgc)) (Nat.le_of_ble_eq_true rfl) ⟨by decide, by decide⟩ (by decide) (by decide) ?_
                refine j_if_ne K 69 dX5_paintNextLine_64 (by decide) (fun h_64 => absurd (by decide) h_64) (fun h_64 => ?_)
                refine j_iconst K 0 dX5_paintNextLine_67 rfl ?_
                refine j_zret K dX5_paintNextLine_68 (by simp) ?_
                exact ⟨rfl, rfl⟩
            · exact absurd h_17 hj
  refine j_aload_n K 0 dX5_paintNextLine_0 rfl rfl ?_
  refine jGi K dX5_paintNextLine_1 f_X5_46 rfl rfl rfl ?_
  refine j_iconst K (-1) dX5_paintNextLine_4 rfl ?_
  refine j_icmp_ne K 12 dX5_paintNextLine_5 (by decide) (fun h_5 => ?_) (fun h_5 => ?_)
  · exact rest V hI (by unfold pnl; rw [if_neg h_5])
  · refine j_aload_n K 0 dX5_paintNextLine_8 rfl rfl ?_
    refine j_cV0n K dX5_paintNextLine_9 m_X5_beginFirstOrder v_X5_beginFirstOrder k_X5_289 rfl ⟨by decide, rfl⟩ rfl (c_X5_beginFirstOrder hI) (Nat.le_of_ble_eq_true rfl) ⟨by decide, by decide⟩ (by decide) (by decide) ?_
    exact rest (bfo n V) (XI_bfo hI) (by unfold pnl; rw [if_pos h_5])
