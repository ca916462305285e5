section W
variable {p : Program} {l : Launch} {e : Env} {s : State} {m : MethodId} {args : Array Value} {below : List Frame} {meth : Method} {c : Code} {D : va_G} {ca : Nat → ClassId} {q0 : Nat} {sa : Nat → Nat} {Q : State → Prop} {b L : Nat} {xs : Nat → Int32} {ad : jAd} {z n i T : Nat} {V : jV} {o5 o6 : Option Value} {kc ks : Nat}
theorem and63 (x : Int32) : ∃ w, w ≤ 63 ∧ x &&& 63 = nI w := by
  refine ⟨(x.toBitVec &&& 63#32).toNat, ?_, ?_⟩
  · rw [BitVec.toNat_and]; exact Nat.and_le_right
  · apply Int32.toBitVec_inj.mp
    rw [Int32.toBitVec_and]
    show x.toBitVec &&& 63#32 = BitVec.ofNat 32 (x.toBitVec &&& 63#32).toNat
    exact (BitVec.ofNat_toNat 32 _).symm.trans rfl |>.symm ▸ (by simp)
theorem end_cond {L i : Nat} (hL : L ≤ 3072) (hi : i ≤ 4000) : (nI L - 6 < nI i) ↔ L < i + 6 := by
  rw [Int32.lt_iff_toInt_lt]
  have e1 : (nI L).toInt = (L : Int) := nI_toInt (by omega)
  have e2 : (nI i).toInt = (i : Int) := nI_toInt (by omega)
  have e6 : (6 : Int32).toInt = 6 := rfl
  rw [ti_sub (by rw [e1, e6]; omega) (by rw [e1, e6]; omega), e1, e2, e6]
  omega

set_option maxRecDepth 20000 in
set_option maxHeartbeats 400000 in
theorem law_loop (K : jK p l room_1 s m args meth c D ca q0 sa RL cL_law 7 ret) (hN : jNc s) (hX : jX s q0 b L xs) (hend : ∀ (ad : jAd) (z n i : Nat) (V : jV) (o5 o6 : Option Value) (kc ks : Nat), jW p l e room_1 s m args below meth c D ca q0 ad 7 Q kc ks 2617 [some (.ref b), some (.ref (ad 0 0)), some (.ref (ad 20 0)), some (.ref (ad 60 0)), some (.int (nI i)), o5, o6] [] (jS z n V)) : ∀ (f i : Nat) (ad : jAd) (z n T : Nat) (V : jV) (o5 o6 : Option Value) (kc ks : Nat), i ≤ L → L < i + 6 * f + 6 → T ≤ 10 * i → Inv T n V V → 12 * f ≤ kc → 60 * f ≤ ks → jW p l e room_1 s m args below meth c D ca q0 ad 7 Q kc ks 23 [some (.ref b), some (.ref (ad 0 0)), some (.ref (ad 20 0)), some (.ref (ad 60 0)), some (.int (nI i)), o5, o6] [] (jS z n V) := by
  have hL := hX.2.2.2
  intro f
  induction f with
  | zero =>
    intro i ad z n T V o5 o6 kc ks h1 h2 h3 h h4 h5
    refine j_iload K dL_law_23 rfl ?_
    refine j_aload_n K 0 dL_law_25 rfl rfl ?_
    refine j_slen K hX dL_law_26 ?_
    refine j_bipush K 6 dL_law_27 rfl ?_
    refine j_isub K dL_law_29 ?_
    exact j_icmp_gt K 2617 dL_law_30 (by decide) (fun _ => hend ad z n i V o5 o6 kc ks) (fun hne => absurd ((end_cond hL (by omega)).mpr (by omega)) hne)
  | succ f ih =>
    intro i ad z n T V o5 o6 kc ks h1 h2 h3 h h4 h5
    refine j_iload K dL_law_23 rfl ?_
    refine j_aload_n K 0 dL_law_25 rfl rfl ?_
    refine j_slen K hX dL_law_26 ?_
    refine j_bipush K 6 dL_law_27 rfl ?_
    refine j_isub K dL_law_29 ?_
    refine j_icmp_gt K 2617 dL_law_30 (by decide) (fun _ => hend ad z n i V o5 o6 kc ks) (fun hne => ?_)
    have hi : i + 6 ≤ L := by
      rcases Nat.lt_or_ge L (i + 6) with q | q
      · exact absurd ((end_cond hL (by omega)).mpr q) hne
      · exact q
    have nx : ∀ (ad : jAd) (z n : Nat) (V : jV) (T' : Nat) (o5 o6 : Option Value), Inv T' n V V → T' ≤ T + 60 → ∀ kc ks, 12 * f ≤ kc → 60 * f ≤ ks → jW p l e room_1 s m args below meth c D ca q0 ad 7 Q kc ks 2611 [some (.ref b), some (.ref (ad 0 0)), some (.ref (ad 20 0)), some (.ref (ad 60 0)), some (.int (nI i)), o5, o6] [] (jS z n V) := by
      intro ad z n V T' o5 o6 g1 g2 kc ks g3 g4
      refine j_iinc (v := nI (i + 6)) K dL_law_2611 rfl (by decide) (jx_add (a := i) (b := 6) rfl rfl) ?_
      refine j_goto K 23 dL_law_2614 (by decide) ?_
      exact ih (i + 6) ad z n T' V o5 o6 kc ks hi (by omega) (by omega) g1 g3 g4
    have hT : T ≤ 99999 := by omega
    refine j_aload_n K 0 dL_law_33 rfl rfl ?_
    refine j_iload K dL_law_34 rfl ?_
    refine j_sald K hX i dL_law_36 rfl (by omega) ?_
    refine j_bipush K 63 dL_law_37 rfl ?_
    refine j_iand K dL_law_39 ?_
    obtain ⟨w, w63, hw⟩ := and63 (xs i)
    rw [hw]
    by_cases h43 : w ≤ 43
    · rcases (show w = 0 ∨ w = 1 ∨ w = 2 ∨ w = 3 ∨ w = 4 ∨ w = 5 ∨ w = 6 ∨ w = 7 ∨ w = 8 ∨ w = 9 ∨ w = 10 ∨ w = 11 ∨ w = 12 ∨ w = 13 ∨ w = 14 ∨ w = 15 ∨ w = 16 ∨ w = 17 ∨ w = 18 ∨ w = 19 ∨ w = 20 ∨ w = 21 ∨ w = 22 ∨ w = 23 ∨ w = 24 ∨ w = 25 ∨ w = 26 ∨ w = 27 ∨ w = 28 ∨ w = 29 ∨ w = 30 ∨ w = 31 ∨ w = 32 ∨ w = 33 ∨ w = 34 ∨ w = 35 ∨ w = 36 ∨ w = 37 ∨ w = 38 ∨ w = 39 ∨ w = 40 ∨ w = 41 ∨ w = 42 ∨ w = 43 by omega) with e9 | e9 | e9 | e9 | e9 | e9 | e9 | e9 | e9 | e9 | e9 | e9 | e9 | e9 | e9 | e9 | e9 | e9 | e9 | e9 | e9 | e9 | e9 | e9 | e9 | e9 | e9 | e9 | e9 | e9 | e9 | e9 | e9 | e9 | e9 | e9 | e9 | e9 | e9 | e9 | e9 | e9 | e9 | e9
      · subst e9
        refine j_tabIn K (off := 192) (tgt := 232) dL_law_40 (by decide) (by decide) rfl (by decide) ?_
        by_cases hb : okA (xs (i + 1)) (xs (i + 2)) (xs (i + 3)) (xs (i + 4)) (xs (i + 5)) ∧ n < 6
        · exact law_addPier0 K hN hX hi h hb.2 hb.1 (by omega) (by omega) (fun ad z V T' o5 o6 a g => nx ad z (n + 1) V T' o5 o6 a g _ _ (by omega) (by omega))
        · exact law_addPier K hN hX hi (case_addPier h _ _ _ _ _ hb) (by omega) (by omega) (fun z V T' o5 o6 a g => nx ad z n V T' o5 o6 a g _ _ (by omega) (by omega))
      · subst e9
        refine j_tabIn K (off := 296) (tgt := 336) dL_law_40 (by decide) (by decide) rfl (by decide) ?_
        exact law_pierCount K (case_pierCount h) (by omega) (by omega) (fun z V T' o5 o6 a g => nx ad z n V T' o5 o6 a g _ _ (by omega) (by omega))
      · subst e9
        refine j_tabIn K (off := 309) (tgt := 349) dL_law_40 (by decide) (by decide) rfl (by decide) ?_
        exact law_today K (case_today h) (by omega) (by omega) (fun z V T' o5 o6 a g => nx ad z n V T' o5 o6 a g _ _ (by omega) (by omega))
      · subst e9
        refine j_tabIn K (off := 322) (tgt := 362) dL_law_40 (by decide) (by decide) rfl (by decide) ?_
        exact law_passDays K hN hX hi (case_passDays h hT _) (by omega) (by omega) (fun z V T' o5 o6 a g => nx ad z n V T' o5 o6 a g _ _ (by omega) (by omega))
      · subst e9
        refine j_tabIn K (off := 378) (tgt := 418) dL_law_40 (by decide) (by decide) rfl (by decide) ?_
        exact law_moonAge K hN hX hi (case_moonAge h _) (by omega) (by omega) (fun z V T' o5 o6 a g => nx ad z n V T' o5 o6 a g _ _ (by omega) (by omega))
      · subst e9
        refine j_tabIn K (off := 434) (tgt := 474) dL_law_40 (by decide) (by decide) rfl (by decide) ?_
        exact law_rangeOf K hN hX hi (case_rangeOf h _ _) (by omega) (by omega) (fun z V T' o5 o6 a g => nx ad z n V T' o5 o6 a g _ _ (by omega) (by omega))
      · subst e9
        refine j_tabIn K (off := 502) (tgt := 542) dL_law_40 (by decide) (by decide) rfl (by decide) ?_
        exact law_waterCount K hN hX hi (case_waterCount h _ _) (by omega) (by omega) (fun z V T' o5 o6 a g => nx ad z n V T' o5 o6 a g _ _ (by omega) (by omega))
      · subst e9
        refine j_tabIn K (off := 570) (tgt := 610) dL_law_40 (by decide) (by decide) rfl (by decide) ?_
        exact law_waterMinute K hN hX hi (case_waterMinute h _ _ _) (by omega) (by omega) (fun z V T' o5 o6 a g => nx ad z n V T' o5 o6 a g _ _ (by omega) (by omega))
      · subst e9
        refine j_tabIn K (off := 650) (tgt := 690) dL_law_40 (by decide) (by decide) rfl (by decide) ?_
        exact law_waterHeight K hN hX hi (case_waterHeight h _ _ _) (by omega) (by omega) (fun z V T' o5 o6 a g => nx ad z n V T' o5 o6 a g _ _ (by omega) (by omega))
      · subst e9
        refine j_tabIn K (off := 730) (tgt := 770) dL_law_40 (by decide) (by decide) rfl (by decide) ?_
        exact law_isHighWater K hN hX hi (caseB_isHighWater h _ _ _) (by omega) (by omega) (fun z V T' o5 o6 a g => nx ad z n V T' o5 o6 a g _ _ (by omega) (by omega))
      · subst e9
        refine j_tabIn K (off := 817) (tgt := 857) dL_law_40 (by decide) (by decide) rfl (by decide) ?_
        exact law_minutesToHighWater K hN hX hi (case_minutesToHighWater h _ _ _) (by omega) (by omega) (fun z V T' o5 o6 a g => nx ad z n V T' o5 o6 a g _ _ (by omega) (by omega))
      · subst e9
        refine j_tabIn K (off := 897) (tgt := 937) dL_law_40 (by decide) (by decide) rfl (by decide) ?_
        exact law_report K hN hX hi (case_report h _ _ _) (by omega) (by omega) (fun z V T' o5 o6 a g => nx ad z n V T' o5 o6 a g _ _ (by omega) (by omega))
      · subst e9
        refine j_tabIn K (off := 977) (tgt := 1017) dL_law_40 (by decide) (by decide) rfl (by decide) ?_
        exact law_observe K hN hX hi (case_observe h _ _) (by omega) (by omega) (fun z V T' o5 o6 a g => nx ad z n V T' o5 o6 a g _ _ (by omega) (by omega))
      · subst e9
        refine j_tabIn K (off := 1045) (tgt := 1085) dL_law_40 (by decide) (by decide) rfl (by decide) ?_
        exact law_correctionOf K hN hX hi (case_correctionOf h _) (by omega) (by omega) (fun z V T' o5 o6 a g => nx ad z n V T' o5 o6 a g _ _ (by omega) (by omega))
      · subst e9
        refine j_tabIn K (off := 1101) (tgt := 1141) dL_law_40 (by decide) (by decide) rfl (by decide) ?_
        exact law_trustOf K hN hX hi (case_trustOf h _) (by omega) (by omega) (fun z V T' o5 o6 a g => nx ad z n V T' o5 o6 a g _ _ (by omega) (by omega))
      · subst e9
        refine j_tabIn K (off := 1157) (tgt := 1197) dL_law_40 (by decide) (by decide) rfl (by decide) ?_
        exact law_reportCount K hN hX hi (case_reportCount h _) (by omega) (by omega) (fun z V T' o5 o6 a g => nx ad z n V T' o5 o6 a g _ _ (by omega) (by omega))
      · subst e9
        refine j_tabIn K (off := 1213) (tgt := 1253) dL_law_40 (by decide) (by decide) rfl (by decide) ?_
        exact law_reporterAt K hN hX hi (case_reporterAt h _ _) (by omega) (by omega) (fun z V T' o5 o6 a g => nx ad z n V T' o5 o6 a g _ _ (by omega) (by omega))
      · subst e9
        refine j_tabIn K (off := 1281) (tgt := 1321) dL_law_40 (by decide) (by decide) rfl (by decide) ?_
        exact law_reportedMinutes K hN hX hi (case_reportedMinutes h _ _) (by omega) (by omega) (fun z V T' o5 o6 a g => nx ad z n V T' o5 o6 a g _ _ (by omega) (by omega))
      · subst e9
        refine j_tabIn K (off := 1349) (tgt := 1389) dL_law_40 (by decide) (by decide) rfl (by decide) ?_
        exact law_reportAge K hN hX hi (case_reportAge h _ _) (by omega) (by omega) (fun z V T' o5 o6 a g => nx ad z n V T' o5 o6 a g _ _ (by omega) (by omega))
      · subst e9
        refine j_tabIn K (off := 1417) (tgt := 1457) dL_law_40 (by decide) (by decide) rfl (by decide) ?_
        exact law_deliverTin K hN hX hi (case_deliverTin h _ _) (by omega) (by omega) (fun z V T' o5 o6 a g => nx ad z n V T' o5 o6 a g _ _ (by omega) (by omega))
      · subst e9
        refine j_tabIn K (off := 1485) (tgt := 1525) dL_law_40 (by decide) (by decide) rfl (by decide) ?_
        exact law_tinCount K hN hX hi (case_tinCount h _) (by omega) (by omega) (fun z V T' o5 o6 a g => nx ad z n V T' o5 o6 a g _ _ (by omega) (by omega))
      · subst e9
        refine j_tabIn K (off := 1541) (tgt := 1581) dL_law_40 (by decide) (by decide) rfl (by decide) ?_
        exact law_paintLeft K hN hX hi (case_paintLeft h _) (by omega) (by omega) (fun z V T' o5 o6 a g => nx ad z n V T' o5 o6 a g _ _ (by omega) (by omega))
      · subst e9
        refine j_tabIn K (off := 1597) (tgt := 1637) dL_law_40 (by decide) (by decide) rfl (by decide) ?_
        exact law_oldestTin K hN hX hi (case_oldestTin h _) (by omega) (by omega) (fun z V T' o5 o6 a g => nx ad z n V T' o5 o6 a g _ _ (by omega) (by omega))
      · subst e9
        refine j_tabIn K (off := 1653) (tgt := 1693) dL_law_40 (by decide) (by decide) rfl (by decide) ?_
        exact law_paintUsed K (case_paintUsed h) (by omega) (by omega) (fun z V T' o5 o6 a g => nx ad z n V T' o5 o6 a g _ _ (by omega) (by omega))
      · subst e9
        refine j_tabIn K (off := 1666) (tgt := 1706) dL_law_40 (by decide) (by decide) rfl (by decide) ?_
        exact law_paintDripped K (case_paintDripped h) (by omega) (by omega) (fun z V T' o5 o6 a g => nx ad z n V T' o5 o6 a g _ _ (by omega) (by omega))
      · subst e9
        refine j_tabIn K (off := 1679) (tgt := 1719) dL_law_40 (by decide) (by decide) rfl (by decide) ?_
        exact law_paintPoured K (case_paintPoured h) (by omega) (by omega) (fun z V T' o5 o6 a g => nx ad z n V T' o5 o6 a g _ _ (by omega) (by omega))
      · subst e9
        refine j_tabIn K (off := 1692) (tgt := 1732) dL_law_40 (by decide) (by decide) rfl (by decide) ?_
        exact law_order K hN hX hi (case_order h _ _) (by omega) (by omega) (fun z V T' o5 o6 a g => nx ad z n V T' o5 o6 a g _ _ (by omega) (by omega))
      · subst e9
        refine j_tabIn K (off := 1760) (tgt := 1800) dL_law_40 (by decide) (by decide) rfl (by decide) ?_
        exact law_cancelOrder K hN hX hi (case_cancelOrder h _) (by omega) (by omega) (fun z V T' o5 o6 a g => nx ad z n V T' o5 o6 a g _ _ (by omega) (by omega))
      · subst e9
        refine j_tabIn K (off := 1816) (tgt := 1856) dL_law_40 (by decide) (by decide) rfl (by decide) ?_
        exact law_waitingOrders K (case_waitingOrders h) (by omega) (by omega) (fun z V T' o5 o6 a g => nx ad z n V T' o5 o6 a g _ _ (by omega) (by omega))
      · subst e9
        refine j_tabIn K (off := 1829) (tgt := 1869) dL_law_40 (by decide) (by decide) rfl (by decide) ?_
        exact law_waitingPier K hN hX hi (case_waitingPier h _) (by omega) (by omega) (fun z V T' o5 o6 a g => nx ad z n V T' o5 o6 a g _ _ (by omega) (by omega))
      · subst e9
        refine j_tabIn K (off := 1885) (tgt := 1925) dL_law_40 (by decide) (by decide) rfl (by decide) ?_
        exact law_jobPier K (case_jobPier h) (by omega) (by omega) (fun z V T' o5 o6 a g => nx ad z n V T' o5 o6 a g _ _ (by omega) (by omega))
      · subst e9
        refine j_tabIn K (off := 1898) (tgt := 1938) dL_law_40 (by decide) (by decide) rfl (by decide) ?_
        exact law_linesToPaint K (case_linesToPaint h) (by omega) (by omega) (fun z V T' o5 o6 a g => nx ad z n V T' o5 o6 a g _ _ (by omega) (by omega))
      · subst e9
        refine j_tabIn K (off := 1911) (tgt := 1951) dL_law_40 (by decide) (by decide) rfl (by decide) ?_
        exact law_paint K hN hX hi (case_paint h _) (by omega) (by omega) (fun z V T' o5 o6 a g => nx ad z n V T' o5 o6 a g _ _ (by omega) (by omega))
      · subst e9
        refine j_tabIn K (off := 1967) (tgt := 2007) dL_law_40 (by decide) (by decide) rfl (by decide) ?_
        exact law_giveUpJob K hN hX hi (case_giveUpJob h) (by omega) (by omega) (fun z V T' o5 o6 a g => nx ad z n V T' o5 o6 a g _ _ (by omega) (by omega))
      · subst e9
        refine j_tabIn K (off := 2011) (tgt := 2051) dL_law_40 (by decide) (by decide) rfl (by decide) ?_
        exact law_touchUp K hN hX hi (case_touchUp h _) (by omega) (by omega) (fun z V T' o5 o6 a g => nx ad z n V T' o5 o6 a g _ _ (by omega) (by omega))
      · subst e9
        refine j_tabIn K (off := 2067) (tgt := 2107) dL_law_40 (by decide) (by decide) rfl (by decide) ?_
        exact law_boardDay K hN hX hi (case_boardDay h _) (by omega) (by omega) (fun z V T' o5 o6 a g => nx ad z n V T' o5 o6 a g _ _ (by omega) (by omega))
      · subst e9
        refine j_tabIn K (off := 2123) (tgt := 2163) dL_law_40 (by decide) (by decide) rfl (by decide) ?_
        exact law_lineCount K hN hX hi (case_lineCount h _) (by omega) (by omega) (fun z V T' o5 o6 a g => nx ad z n V T' o5 o6 a g _ _ (by omega) (by omega))
      · subst e9
        refine j_tabIn K (off := 2179) (tgt := 2219) dL_law_40 (by decide) (by decide) rfl (by decide) ?_
        exact law_lineState K hN hX hi (case_lineState h _ _) (by omega) (by omega) (fun z V T' o5 o6 a g => nx ad z n V T' o5 o6 a g _ _ (by omega) (by omega))
      · subst e9
        refine j_tabIn K (off := 2247) (tgt := 2287) dL_law_40 (by decide) (by decide) rfl (by decide) ?_
        exact law_lineMinute K hN hX hi (case_lineMinute h _ _) (by omega) (by omega) (fun z V T' o5 o6 a g => nx ad z n V T' o5 o6 a g _ _ (by omega) (by omega))
      · subst e9
        refine j_tabIn K (off := 2315) (tgt := 2355) dL_law_40 (by decide) (by decide) rfl (by decide) ?_
        exact law_lineHeight K hN hX hi (case_lineHeight h _ _) (by omega) (by omega) (fun z V T' o5 o6 a g => nx ad z n V T' o5 o6 a g _ _ (by omega) (by omega))
      · subst e9
        refine j_tabIn K (off := 2383) (tgt := 2423) dL_law_40 (by decide) (by decide) rfl (by decide) ?_
        exact law_dripsOf K hN hX hi (case_dripsOf h _) (by omega) (by omega) (fun z V T' o5 o6 a g => nx ad z n V T' o5 o6 a g _ _ (by omega) (by omega))
      · subst e9
        refine j_tabIn K (off := 2439) (tgt := 2479) dL_law_40 (by decide) (by decide) rfl (by decide) ?_
        exact law_unreadableLines K hN hX hi (case_unreadableLines h _) (by omega) (by omega) (fun z V T' o5 o6 a g => nx ad z n V T' o5 o6 a g _ _ (by omega) (by omega))
      · subst e9
        refine j_tabIn K (off := 2495) (tgt := 2535) dL_law_40 (by decide) (by decide) rfl (by decide) ?_
        exact law_isRight K hN hX hi (caseB_isRight h hT _) (by omega) (by omega) (fun z V T' o5 o6 a g => nx ad z n V T' o5 o6 a g _ _ (by omega) (by omega))
      · subst e9
        refine j_tabIn K (off := 2558) (tgt := 2598) dL_law_40 (by decide) (by decide) rfl (by decide) ?_
        exact law_rightBoards K (case_rightBoards h hT) (by omega) (by omega) (fun z V T' o5 o6 a g => nx ad z n V T' o5 o6 a g _ _ (by omega) (by omega))
    · refine j_tabOut K (tgt := 2611) dL_law_40 (Or.inr ?_) (by decide) ?_
      · rw [nI_toInt (by omega)]; omega
      · exact nx ad z n V T o5 o6 h (by omega) kc ks (by omega) (by omega)
end W
