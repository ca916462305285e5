section C
variable {l : Launch} {D : va_G} {ca : Nat → ClassId} {q0 : Nat} {sa : Nat → Nat} {ad : jAd} {T n : Nat} {V : jV}
theorem case_pierCount (h : Inv T n V V) : CaseS l D ca q0 sa ad yX5_pierCount cX5_pierCount 1 yX6_pierCount cX6_pierCount 1 T n V := by
  refine ⟨V 0 0 1, V, thr V 0, 0, 0, ⟨by decide, by decide⟩, fun z => c_pierCount, fun z => ?_, Inv_SM h (SM_thr (SM_refl V))⟩
  have c := (c_M_pierCount : jMet l D ca q0 sa ad _ _ _ _ _ _ _ _ (jS z n V) _)
  rw [show V 20 0 1 = V 0 0 1 from h.1.2.2.1.trans h.1.2.1.symm] at c
  exact c
theorem case_today (h : Inv T n V V) : CaseS l D ca q0 sa ad yX5_today cX5_today 1 yX6_today cX6_today 1 T n V := by
  refine ⟨V 0 0 7, V, thr V 0, 0, 0, ⟨by decide, by decide⟩, fun z => c_today, fun z => ?_, Inv_SM h (SM_thr (SM_refl V))⟩
  have c := (c_M_today : jMet l D ca q0 sa ad _ _ _ _ _ _ _ _ (jS z n V) _)
  rw [show V 20 0 2 = V 0 0 7 from h.2.2.2.1.2.1.trans h.2.2.2.1.1.symm] at c
  exact c
theorem case_paintUsed (h : Inv T n V V) : CaseS l D ca q0 sa ad yX5_paintUsed cX5_paintUsed 1 yX6_paintUsed cX6_paintUsed 1 T n V := by
  refine ⟨V 0 0 9, V, thr V 0, 0, 0, ⟨by decide, by decide⟩, fun z => c_paintUsed, fun z => ?_, Inv_SM h (SM_thr (SM_refl V))⟩
  have c := (c_M_paintUsed : jMet l D ca q0 sa ad _ _ _ _ _ _ _ _ (jS z n V) _)
  rw [show V 20 0 15 = V 0 0 9 from h.2.2.2.2.2.1] at c
  exact c
theorem case_paintDripped (h : Inv T n V V) : CaseS l D ca q0 sa ad yX5_paintDripped cX5_paintDripped 1 yX6_paintDripped cX6_paintDripped 1 T n V := by
  refine ⟨V 0 0 10, V, thr V 0, 0, 0, ⟨by decide, by decide⟩, fun z => c_paintDripped, fun z => ?_, Inv_SM h (SM_thr (SM_refl V))⟩
  have c := (c_M_paintDripped : jMet l D ca q0 sa ad _ _ _ _ _ _ _ _ (jS z n V) _)
  rw [show V 20 0 16 = V 0 0 10 from h.2.2.2.2.2.2.1] at c
  exact c
theorem case_paintPoured (h : Inv T n V V) : CaseS l D ca q0 sa ad yX5_paintPoured cX5_paintPoured 1 yX6_paintPoured cX6_paintPoured 1 T n V := by
  refine ⟨V 4 0 2 + V 4 1 2, V, thr V 0, 0, 0, ⟨by decide, by decide⟩, fun z => c_paintPoured, fun z => ?_, Inv_SM h (SM_thr (SM_refl V))⟩
  have c := (c_M_paintPoured : jMet l D ca q0 sa ad _ _ _ _ _ _ _ _ (jS z n V) _)
  rw [show V 20 0 17 = V 4 0 2 + V 4 1 2 from h.2.2.2.2.2.2.2] at c
  exact c
theorem case_jobPier (h : Inv T n V V) : CaseS l D ca q0 sa ad yX5_jobPier cX5_jobPier 1 yX6_jobPier cX6_jobPier 1 T n V := by
  refine ⟨V 0 0 8, V, thr V 0, 0, 0, ⟨by decide, by decide⟩, fun z => c_jobPier, fun z => ?_, Inv_SM h (SM_thr (SM_refl V))⟩
  have c := (c_M_jobPier : jMet l D ca q0 sa ad _ _ _ _ _ _ _ _ (jS z n V) _)
  rw [show V 20 0 19 = V 0 0 8 from h.2.2.2.1.2.2.1] at c
  exact c
theorem case_waitingOrders (h : Inv T n V V) : CaseS l D ca q0 sa ad yX5_waitingOrders cX5_waitingOrders 3 yX6_waitingOrders cX6_waitingOrders 3 T n V := by
  refine ⟨nI (wno (xo V) n), V, thr V 0, 0, 0, ⟨by decide, by decide⟩, fun z => c_X5_waitingOrders (Inv_XI h), fun z => ?_, Inv_SM h (SM_thr (SM_refl V))⟩
  have c := (c_M_waitingOrders ⟨h.1.1, h.1.2.2.1⟩ : jMet l D ca q0 sa ad _ _ _ _ _ _ _ _ (jS z n V) _)
  have hn := h.1.1
  rw [show wno (yo V) n = wno (xo V) n from wno_congr n (fun j hj => (h.2.2.1 j (by omega)).1)] at c
  exact c
theorem case_linesToPaint (h : Inv T n V V) : CaseS l D ca q0 sa ad yX5_linesToPaint cX5_linesToPaint 1 yX6_linesToPaint cX6_linesToPaint 1 T n V := by
  by_cases hj : V 0 0 8 = -1
  · refine ⟨0, V, thr V 0, 1, 0, ⟨by decide, by decide⟩, fun z => c_linesToPaint0 hj, fun z => c_M_linesToPaintx (h.2.2.2.1.2.2.1.trans hj), Inv_SM h (SM_thr (SM_refl V))⟩
  · obtain ⟨a, j, ha, e8, e19, e20, eb, hj2, hz⟩ := JB_bln h hj
    refine ⟨nI (j + 1), V, thr V 0, 1, 0, ⟨by decide, by decide⟩, fun z => ?_, fun z => ?_, Inv_SM h (SM_thr (SM_refl V))⟩
    · have c := (c_linesToPaint (Inv_XI h) e8 ha : jMet l D ca q0 sa ad _ _ _ _ _ _ _ _ (jS z n V) _)
      rw [eb] at c
      exact c
    · have c := (c_M_linesToPaint (fun q => hj (h.2.2.2.1.2.2.1.symm.trans q)) : jMet l D ca q0 sa ad _ _ _ _ _ _ _ _ (jS z n V) _)
      rw [show V 20 0 20 + 1 = nI (j + 1) from jx_add (b := 1) e20 rfl] at c
      exact c
theorem rbV_o : ∀ (j : Nat) (V : jV), SM V (rbV j V).1
  | 0, V => SM_refl V
  | j + 1, V => by rw [rbV]; exact SM_shw (rbV_o j V)
theorem rbY_o : ∀ (j : Nat) (V W : jV), SM V W → SM V (rbY W j).1
  | 0, V, W, h => SM_thr h
  | j + 1, V, W, h => by rw [rbY]; exact SM_rg (rbY_o j V W h)
theorem case_rightBoards (h : Inv T n V V) (hT : T ≤ 99999) : CaseS l D ca q0 sa ad yX5_rightBoards cX5_rightBoards 3 yX6_rightBoards cX6_rightBoards 3 T n V := by
  have s1 := rbV_o n V
  have h1 : Inv T n V (rbV n V).1 := Inv_SW h s1
  obtain ⟨r1, r2⟩ := rb_rel h1 hT n (Nat.le_refl n)
  refine ⟨(rbV n V).2, (rbV n V).1, (rbY (rbV n V).1 n).1, 4, 4, ⟨by decide, by decide⟩, fun z => c_rightBoards (Inv_XI h), fun z => ?_, Inv_SM h (rbY_o n V _ s1)⟩
  have c := (c_M_rightBoards (Inv_YD h1) : jMet l D ca q0 sa ad _ _ _ _ _ _ _ _ (jS z n (rbV n V).1) _)
  rw [r1] at c
  exact c
end C
