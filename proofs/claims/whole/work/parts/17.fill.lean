/-- the waters from the minute mm on, the first high if hh is 1: the j-th one's minute and kind -/
def wst (mm hh : Int32) : Nat → Int32 × Int32
  | 0 => (mm, hh)
  | j + 1 => ((wst mm hh j).1 + (if (wst mm hh j).2 = 0 then 373 else 372), if (wst mm hh j).2 = 0 then 1 else 0)
theorem wst_01 {mm hh : Int32} (h : hh = 0 ∨ hh = 1) (j : Nat) : (wst mm hh j).2 = 0 ∨ (wst mm hh j).2 = 1 := by
  cases j with
  | zero => exact h
  | succ j => unfold wst; by_cases e : (wst mm hh j).2 = 0 <;> simp [e]
def wcnt (mm hh : Int32) : Nat := fidx (fun j => !decide ((wst mm hh j).1 < 1440)) 4
def tabV (V : jV) (ti i : Nat) (half mm hh : Int32) (c : Nat) : jV := up (fun k a j => if (k = 7 ∨ k = 8 ∨ k = 9) ∧ a = ti ∧ j < c then (if k = 7 then (wst mm hh j).1 else if k = 8 then (if (wst mm hh j).2 = 0 then V 10 i 1 - half else V 10 i 1 + half) else (wst mm hh j).2) else V k a j) 6 ti 3 (nI c)
theorem tab_cnt {V : jV} {ti i : Nat} {half mm hh : Int32} {c : Nat} : tabV V ti i half mm hh c 6 ti 3 = nI c := by simp [tabV, up]
theorem tab_7 {V : jV} {ti i j : Nat} {half mm hh : Int32} {c : Nat} (h : j < c) : tabV V ti i half mm hh c 7 ti j = (wst mm hh j).1 := by simp [tabV, up, h]
theorem tab_8 {V : jV} {ti i j : Nat} {half mm hh : Int32} {c : Nat} (h : j < c) : tabV V ti i half mm hh c 8 ti j = if (wst mm hh j).2 = 0 then V 10 i 1 - half else V 10 i 1 + half := by simp [tabV, up, h]
theorem tab_9 {V : jV} {ti i j : Nat} {half mm hh : Int32} {c : Nat} (h : j < c) : tabV V ti i half mm hh c 9 ti j = (wst mm hh j).2 := by simp [tabV, up, h]
def w0m (m : Int32) : Int32 := if m < 373 then m else m + -373
def w0h (m : Int32) : Int32 := if m < 373 then 1 else 0
theorem w0h_01 (m : Int32) : w0h m = 0 ∨ w0h m = 1 := by
  unfold w0h; split
  · exact Or.inr rfl
  · exact Or.inl rfl
def filV (V : jV) (ti i cnt : Nat) (d : Int32) : jV := tabV V ti i (rangeX V i d / 2) (w0m (mthX V i cnt d 0)) (w0h (mthX V i cnt d 0)) (wcnt (w0m (mthX V i cnt d 0)) (w0h (mthX V i cnt d 0)))
theorem fil_7 {V : jV} {ti i cnt j : Nat} {d : Int32} (h : j < wcnt (w0m (mthX V i cnt d 0)) (w0h (mthX V i cnt d 0))) : filV V ti i cnt d 7 ti j = (wst (w0m (mthX V i cnt d 0)) (w0h (mthX V i cnt d 0)) j).1 := by unfold filV; exact tab_7 h
theorem fil_8 {V : jV} {ti i cnt j : Nat} {d : Int32} (h : j < wcnt (w0m (mthX V i cnt d 0)) (w0h (mthX V i cnt d 0))) : filV V ti i cnt d 8 ti j = if (wst (w0m (mthX V i cnt d 0)) (w0h (mthX V i cnt d 0)) j).2 = 0 then V 10 i 1 - rangeX V i d / 2 else V 10 i 1 + rangeX V i d / 2 := by unfold filV; exact tab_8 h
theorem fil_9 {V : jV} {ti i cnt j : Nat} {d : Int32} (h : j < wcnt (w0m (mthX V i cnt d 0)) (w0h (mthX V i cnt d 0))) : filV V ti i cnt d 9 ti j = (wst (w0m (mthX V i cnt d 0)) (w0h (mthX V i cnt d 0)) j).2 := by unfold filV; exact tab_9 h
theorem fil_9_01 {V : jV} {ti i cnt j : Nat} {d : Int32} (h : j < wcnt (w0m (mthX V i cnt d 0)) (w0h (mthX V i cnt d 0))) : filV V ti i cnt d 9 ti j = 0 ∨ filV V ti i cnt d 9 ti j = 1 := by rw [fil_9 h]; exact wst_01 (w0h_01 _) j
set_option maxRecDepth 20000 in
set_option maxHeartbeats 400000 in
theorem c_X3_fill {l : Launch} {D : va_G} {ca : Nat → ClassId} {q0 : Nat} {sa : Nat → Nat} {ad : jAd} {z n ti i cnt : Nat} {V : jV} (x : Int32) (hl : decide (i < n) = true) (ht : LV n 6 ti = true) (hR : RI V i cnt) : jMet l D ca q0 sa ad yX3_fill cX3_fill 6 none 2 0 0 [.ref (ad 6 ti), .ref (ad 10 i), .int x] (jS z n V) (jRet none (jS z n (filV V ti i cnt x))) := by
  refine j_enter RX3 [some (.ref (ad 6 ti)), some (.ref (ad 10 i)), some (.int x), none, none, none] rfl (by decide) (by simp [Value.category]) (Nat.le_of_ble_eq_true rfl) rfl ?_
  intro p e s m args below meth c K hnm hX
  have lp : ∀ (half mm hh : Int32), (hh = 0 ∨ hh = 1) → (tabV V ti i half mm hh (wcnt mm hh) = filV V ti i cnt x) → ∀ (k g : Nat), g ≤ 4 → 4 < g + k → (∀ j, j < g → (!decide ((wst mm hh j).1 < 1440)) = false) → jW p l e (jRm 2 0 0) s m args below meth c D ca q0 ad 6 (jZ below args s D ca q0 ad 0 0 (jRet none (jS z n (filV V ti i cnt x)))) 0 0 41 [some (.ref (ad 6 ti)), some (.ref (ad 10 i)), some (.int x), some (.int half), some (.int (wst mm hh g).1), some (.int (wst mm hh g).2)] [] (jS z n (tabV V ti i half mm hh g)) := by
    intro half mm hh h01 hE k
    induction k with
    | zero => intro g h1 h2; exact absurd h2 (by omega)
    | succ k ih =>
      intro g h1 h2 hno
      refine j_aload_n K 0 dX3_fill_41 rfl rfl ?_
      refine jGi K dX3_fill_42 f_X3_22 rfl ht rfl ?_
      refine j_iconst K 4 dX3_fill_45 rfl ?_
      refine j_icmp_ge K 152 dX3_fill_46 (by decide) (fun h_46 => ?_) (fun h_46 => ?_)
      · refine j_vret K dX3_fill_152 ?_
        first
        | (have hg4 : g = 4 := by have := nle1 h_46 (a := 4) rfl tab_cnt (by decide) (by omega); omega
           have hw : wcnt mm hh = g := fidx_eq (by omega) hno (fun hlt => absurd hlt (by omega))
           rw [← hE, hw]; exact ⟨rfl, rfl⟩)
        | (have hw : wcnt mm hh = g := fidx_eq (by omega) hno (fun hlt => by simp [Int32.not_lt.mpr h_54])
           rw [← hE, hw]; exact ⟨rfl, rfl⟩)
      · refine j_iload K dX3_fill_49 rfl ?_
        refine j_sipush K 1440 dX3_fill_51 rfl ?_
        refine j_icmp_ge K 152 dX3_fill_54 (by decide) (fun h_54 => ?_) (fun h_54 => ?_)
        · refine j_vret K dX3_fill_152 ?_
          first
          | (have hg4 : g = 4 := by have := nle1 h_46 (a := 4) rfl tab_cnt (by decide) (by omega); omega
             have hw : wcnt mm hh = g := fidx_eq (by omega) hno (fun hlt => absurd hlt (by omega))
             rw [← hE, hw]; exact ⟨rfl, rfl⟩)
          | (have hw : wcnt mm hh = g := fidx_eq (by omega) hno (fun hlt => by simp [Int32.not_lt.mpr h_54])
             rw [← hE, hw]; exact ⟨rfl, rfl⟩)
        · have hg4 : g < 4 := nle0 h_46 (a := 4) rfl tab_cnt (by decide) (by omega)
          rcases wst_01 (mm := mm) h01 g with hf | hf
          · rw [hf]
            refine j_aload_n K 0 dX3_fill_57 rfl rfl ?_
            refine jGr K 7 ti dX3_fill_58 f_X3_9 rfl ht rfl rfl ?_
            refine j_aload_n K 0 dX3_fill_61 rfl rfl ?_
            refine jGi K dX3_fill_62 f_X3_22 rfl ht rfl ?_
            refine j_iload K dX3_fill_65 rfl ?_
            refine jIast K (g) dX3_fill_67 rfl ht tab_cnt (by omega) ?_
            refine j_aload_n K 0 dX3_fill_68 rfl rfl ?_
            refine jGr K 8 ti dX3_fill_69 f_X3_15 rfl ht rfl rfl ?_
            refine j_aload_n K 0 dX3_fill_72 rfl rfl ?_
            refine jGi K dX3_fill_73 f_X3_22 rfl ht rfl ?_
            refine j_iload K dX3_fill_76 rfl ?_
            refine j_if_eq K 90 dX3_fill_78 (by decide) (fun h_78 => ?_) (fun h_78 => absurd (by decide) h_78)
            refine j_aload_n K 1 dX3_fill_90 rfl rfl ?_
            refine jGi K dX3_fill_91 f_X3_36 rfl hl rfl ?_
            refine j_iload_n K 3 dX3_fill_94 rfl rfl ?_
            refine j_isub K dX3_fill_95 ?_
            refine jIast K (g) dX3_fill_96 rfl ht tab_cnt (by omega) ?_
            refine j_aload_n K 0 dX3_fill_97 rfl rfl ?_
            refine jGr K 9 ti dX3_fill_98 f_X3_18 rfl ht rfl rfl ?_
            refine j_aload_n K 0 dX3_fill_101 rfl rfl ?_
            refine jGi K dX3_fill_102 f_X3_22 rfl ht rfl ?_
            refine j_iload K dX3_fill_105 rfl ?_
            refine jZast K (g) dX3_fill_107 rfl ht tab_cnt (by omega) (by simp) ?_
            refine j_aload_n K 0 dX3_fill_108 rfl rfl ?_
            refine j_dup K dX3_fill_109 rfl ?_
            refine jGi K dX3_fill_110 f_X3_22 rfl ht rfl ?_
            refine j_iconst K 1 dX3_fill_113 rfl ?_
            refine j_iadd K dX3_fill_114 ?_
            refine jPi K dX3_fill_115 fo_X3_22 rfl ht rfl rfl (Or.inl rfl) ?_
            refine j_iload K dX3_fill_118 rfl ?_
            refine j_iload K dX3_fill_120 rfl ?_
            refine j_if_eq K 131 dX3_fill_122 (by decide) (fun h_122 => ?_) (fun h_122 => absurd (by decide) h_122)
            refine j_sipush K 373 dX3_fill_131 rfl ?_
            refine j_iadd K dX3_fill_134 ?_
            refine j_istore K dX3_fill_135 (by decide) ?_
            refine j_iload K dX3_fill_137 rfl ?_
            refine j_if_ne K 146 dX3_fill_139 (by decide) (fun h_139 => absurd (by decide) h_139) (fun h_139 => ?_)
            refine j_iconst K 1 dX3_fill_142 rfl ?_
            refine j_goto K 147 dX3_fill_143 (by decide) ?_
            refine j_istore K dX3_fill_147 (by decide) ?_
            refine j_goto K 41 dX3_fill_149 (by decide) ?_
            have e1 : (wst mm hh (g + 1)).1 = (wst mm hh g).1 + 373 := by rw [wst]; simp [hf]
            have e2 : (wst mm hh (g + 1)).2 = 1 := by rw [wst]; simp [hf]
            have hn1 : ∀ j, j < g + 1 → (!decide ((wst mm hh j).1 < 1440)) = false := fun j hj => (Nat.lt_succ_iff_lt_or_eq.mp hj).elim (hno j) (fun e => by subst e; simp [Int32.not_le.mp h_54])
            have h9 := ih (g + 1) (by omega) (by omega) hn1
            rw [e1, e2] at h9
            refine j_eqV (V' := tabV V ti i half mm hh (g + 1)) (fun a b e => ?_) h9
            simp only [up, tabV]
            grind [nI_1]
          · rw [hf]
            refine j_aload_n K 0 dX3_fill_57 rfl rfl ?_
            refine jGr K 7 ti dX3_fill_58 f_X3_9 rfl ht rfl rfl ?_
            refine j_aload_n K 0 dX3_fill_61 rfl rfl ?_
            refine jGi K dX3_fill_62 f_X3_22 rfl ht rfl ?_
            refine j_iload K dX3_fill_65 rfl ?_
            refine jIast K (g) dX3_fill_67 rfl ht tab_cnt (by omega) ?_
            refine j_aload_n K 0 dX3_fill_68 rfl rfl ?_
            refine jGr K 8 ti dX3_fill_69 f_X3_15 rfl ht rfl rfl ?_
            refine j_aload_n K 0 dX3_fill_72 rfl rfl ?_
            refine jGi K dX3_fill_73 f_X3_22 rfl ht rfl ?_
            refine j_iload K dX3_fill_76 rfl ?_
            refine j_if_eq K 90 dX3_fill_78 (by decide) (fun h_78 => absurd h_78 (by decide)) (fun h_78 => ?_)
            refine j_aload_n K 1 dX3_fill_81 rfl rfl ?_
            refine jGi K dX3_fill_82 f_X3_36 rfl hl rfl ?_
            refine j_iload_n K 3 dX3_fill_85 rfl rfl ?_
            refine j_iadd K dX3_fill_86 ?_
            refine j_goto K 96 dX3_fill_87 (by decide) ?_
            refine jIast K (g) dX3_fill_96 rfl ht tab_cnt (by omega) ?_
            refine j_aload_n K 0 dX3_fill_97 rfl rfl ?_
            refine jGr K 9 ti dX3_fill_98 f_X3_18 rfl ht rfl rfl ?_
            refine j_aload_n K 0 dX3_fill_101 rfl rfl ?_
            refine jGi K dX3_fill_102 f_X3_22 rfl ht rfl ?_
            refine j_iload K dX3_fill_105 rfl ?_
            refine jZast K (g) dX3_fill_107 rfl ht tab_cnt (by omega) (by simp) ?_
            refine j_aload_n K 0 dX3_fill_108 rfl rfl ?_
            refine j_dup K dX3_fill_109 rfl ?_
            refine jGi K dX3_fill_110 f_X3_22 rfl ht rfl ?_
            refine j_iconst K 1 dX3_fill_113 rfl ?_
            refine j_iadd K dX3_fill_114 ?_
            refine jPi K dX3_fill_115 fo_X3_22 rfl ht rfl rfl (Or.inl rfl) ?_
            refine j_iload K dX3_fill_118 rfl ?_
            refine j_iload K dX3_fill_120 rfl ?_
            refine j_if_eq K 131 dX3_fill_122 (by decide) (fun h_122 => absurd h_122 (by decide)) (fun h_122 => ?_)
            refine j_sipush K 372 dX3_fill_125 rfl ?_
            refine j_goto K 134 dX3_fill_128 (by decide) ?_
            refine j_iadd K dX3_fill_134 ?_
            refine j_istore K dX3_fill_135 (by decide) ?_
            refine j_iload K dX3_fill_137 rfl ?_
            refine j_if_ne K 146 dX3_fill_139 (by decide) (fun h_139 => ?_) (fun h_139 => absurd h_139 (by decide))
            refine j_iconst K 0 dX3_fill_146 rfl ?_
            refine j_istore K dX3_fill_147 (by decide) ?_
            refine j_goto K 41 dX3_fill_149 (by decide) ?_
            have e1 : (wst mm hh (g + 1)).1 = (wst mm hh g).1 + 372 := by rw [wst]; simp [hf]
            have e2 : (wst mm hh (g + 1)).2 = 0 := by rw [wst]; simp [hf]
            have hn1 : ∀ j, j < g + 1 → (!decide ((wst mm hh j).1 < 1440)) = false := fun j hj => (Nat.lt_succ_iff_lt_or_eq.mp hj).elim (hno j) (fun e => by subst e; simp [Int32.not_le.mp h_54])
            have h9 := ih (g + 1) (by omega) (by omega) hn1
            rw [e1, e2] at h9
            refine j_eqV (V' := tabV V ti i half mm hh (g + 1)) (fun a b e => ?_) h9
            simp only [up, tabV]
            grind [nI_1]
  refine j_aload_n K 1 dX3_fill_0 rfl rfl ?_
  refine j_iload_n K 2 dX3_fill_1 rfl rfl ?_
  refine j_cV1r K dX3_fill_2 m_X1_rangeOn v_X1_rangeOn k_X3_26 rfl ⟨by decide, rfl⟩ hl (c_X1_rangeOn x hl) (Nat.le_of_ble_eq_true rfl) ⟨by decide, by decide⟩ (by decide) (by decide) ?_
  refine j_iconst K 2 dX3_fill_5 rfl ?_
  refine j_idiv K dX3_fill_6 (by decide) ?_
  refine j_istore_n K 3 dX3_fill_7 rfl (by decide) ?_
  refine j_aload_n K 1 dX3_fill_8 rfl rfl ?_
  refine j_iload_n K 2 dX3_fill_9 rfl rfl ?_
  refine j_iconst K 0 dX3_fill_10 rfl ?_
  refine j_cV2r K dX3_fill_11 m_X1_minutesToHigh v_X1_minutesToHigh k_X3_32 rfl ⟨by decide, rfl⟩ hl (c_X1_minutesToHigh x 0 hl hR.1 hR.2.1 hR.2.2) (Nat.le_of_ble_eq_true rfl) ⟨by decide, by decide⟩ (by decide) (by decide) ?_
  refine j_istore K dX3_fill_14 (by decide) ?_
  refine j_iconst K 1 dX3_fill_16 rfl ?_
  refine j_istore K dX3_fill_17 (by decide) ?_
  refine j_iload K dX3_fill_19 rfl ?_
  refine j_sipush K 373 dX3_fill_21 rfl ?_
  refine j_icmp_lt K 36 dX3_fill_24 (by decide) (fun h_24 => ?_) (fun h_24 => ?_)
  · refine j_aload_n K 0 dX3_fill_36 rfl rfl ?_
    refine j_iconst K 0 dX3_fill_37 rfl ?_
    refine jPi K dX3_fill_38 fo_X3_22 rfl ht rfl rfl (Or.inl rfl) ?_
    refine j_eqV (V' := tabV V ti i (rangeX V i x / 2) (mthX V i cnt x 0) (1) 0) (fun a b e => ?_) (lp _ (mthX V i cnt x 0) (1) (by simp) (by unfold filV w0m w0h; rw [if_pos h_24, if_pos h_24]) 5 0 (by omega) (by omega) (fun j hj => absurd hj (by omega)))
    simp only [up, tabV]
    grind [nI_0]
  · refine j_iincW K dX3_fill_27 rfl (by decide) rfl ?_
    refine j_iconst K 0 dX3_fill_33 rfl ?_
    refine j_istore K dX3_fill_34 (by decide) ?_
    refine j_aload_n K 0 dX3_fill_36 rfl rfl ?_
    refine j_iconst K 0 dX3_fill_37 rfl ?_
    refine jPi K dX3_fill_38 fo_X3_22 rfl ht rfl rfl (Or.inl rfl) ?_
    refine j_eqV (V' := tabV V ti i (rangeX V i x / 2) (mthX V i cnt x 0 + -373) (0) 0) (fun a b e => ?_) (lp _ (mthX V i cnt x 0 + -373) (0) (by simp) (by unfold filV w0m w0h; rw [if_neg h_24, if_neg h_24]) 5 0 (by omega) (by omega) (fun j hj => absurd hj (by omega)))
    simp only [up, tabV]
    grind [nI_0]
