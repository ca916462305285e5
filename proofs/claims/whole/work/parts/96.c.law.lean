section W
variable {p : Program} {l : Launch} {e : Env} {s : State} {m : MethodId} {args : Array Value} {below : List Frame} {meth : Method} {c : Code} {D : va_G} {ca : Nat → ClassId} {q0 : Nat} {sa : Nat → Nat} {Q : State → Prop} {b L : Nat} {xs : Nat → Int32} {ad : jAd} {z n i T : Nat} {V : jV} {o5 o6 : Option Value} {kc ks : Nat}
set_option maxRecDepth 20000 in
set_option maxHeartbeats 400000 in
theorem law_oldestTin (K : jK p l room_1 s m args meth c D ca q0 sa RL cL_law 7 ret) (hN : jNc s) (hX : jX s q0 b L xs) (hi : i + 6 ≤ L) (C : Case l D ca q0 sa ad yL_oldestTin cL_oldestTin 4 hL_oldestTin yX6_oldestTin cX6_oldestTin 2 (some .int) [.int (xs (i + 1))] T n V) (hkc : 1 ≤ kc) (hks : 6 ≤ ks) (kk : ∀ (z : Nat) (V : jV) (T' : Nat) (o5 o6 : Option Value), Inv T' n V V → T' ≤ T + 60 → jW p l e room_1 s m args below meth c D ca q0 ad 7 Q (kc - 1) (ks - 6) 2611 [some (.ref b), some (.ref (ad 0 0)), some (.ref (ad 20 0)), some (.ref (ad 60 0)), some (.int (nI i)), o5, o6] [] (jS z n V)) : jW p l e room_1 s m args below meth c D ca q0 ad 7 Q kc ks 1637 [some (.ref b), some (.ref (ad 0 0)), some (.ref (ad 20 0)), some (.ref (ad 60 0)), some (.int (nI i)), o5, o6] [] (jS z n V) := by
  obtain ⟨k, r, V1, V2, lx, lm, mc, ms, T', ⟨b1, b2, b3, b4, b5⟩, hx, hm, e0, e1, hI⟩ := C
  refine j_aload_n K 1 dL_law_1637 rfl rfl ?_
  refine j_aload_n K 0 dL_law_1638 rfl rfl ?_
  refine j_iload K dL_law_1639 rfl ?_
  refine j_iconst K 1 dL_law_1641 rfl ?_
  refine j_iadd K dL_law_1642 ?_
  refine j_sald K hX (i + 1) dL_law_1643 (jx_add (a := i) (b := 1) rfl rfl) (by omega) ?_
  refine j_aload_n K 3 dL_law_1644 rfl rfl ?_
  refine j_callSH K hN dL_law_1645 mw_oldestTin sw_oldestTin k_L_210 (hx z) rfl rfl (by simp [Value.category]) ⟨(by show _ ≤ 14; omega), (by show _ ≤ 518; omega)⟩ (by omega) (by omega) (fun v9 M9 hq => ?_) (fun E9 M9 hq => absurd hq.1 (fun w => nomatch w))
  obtain ⟨h9, hM⟩ := hq
  cases h9
  obtain ⟨z9, q9⟩ := M9
  cases hM
  refine j_istore K dL_law_1648 (by decide) ?_
  refine j_aload_n K 2 dL_law_1650 rfl rfl ?_
  refine j_aload_n K 0 dL_law_1651 rfl rfl ?_
  refine j_iload K dL_law_1652 rfl ?_
  refine j_iconst K 1 dL_law_1654 rfl ?_
  refine j_iadd K dL_law_1655 ?_
  refine j_sald K hX (i + 1) dL_law_1656 (jx_add (a := i) (b := 1) rfl rfl) (by omega) ?_
  refine j_callV K dL_law_1657 m_X6_oldestTin v_X6_oldestTin k_L_212 rfl ⟨by decide, rfl⟩ rfl (hm z9) rfl rfl (by simp [Value.category]) ⟨(by show _ ≤ 14; omega), (by show _ ≤ 518; omega)⟩ (Nat.zero_le _) (Nat.zero_le _) (fun v9 M9 hq => ?_) (fun E9 M9 hq => absurd hq.1 (fun w => nomatch w))
  obtain ⟨h9, rfl⟩ := hq
  cases h9
  refine j_istore K dL_law_1660 (by decide) ?_
  refine j_aload_n K 2 dL_law_1662 rfl rfl ?_
  refine j_callV K dL_law_1663 m_X6_thrown v_X6_thrown k_L_139 rfl ⟨by decide, rfl⟩ rfl c_M_thrown rfl rfl (by simp [Value.category]) ⟨(by show _ ≤ 14; decide), (by show _ ≤ 518; decide)⟩ (Nat.zero_le _) (Nat.zero_le _) (fun v9 M9 hq => ?_) (fun E9 M9 hq => absurd hq.1 (fun w => nomatch w))
  obtain ⟨h9, rfl⟩ := hq
  cases h9
  refine j_iload K dL_law_1666 rfl ?_
  refine j_icmp_eq K 1673 dL_law_1668 (by decide) (fun _ => ?_) (fun hne => absurd e0 hne)
  refine j_iload K dL_law_1673 rfl ?_
  refine j_if_ne K 1690 dL_law_1675 (by decide) (fun hk => ?_) (fun hk => ?_)
  · refine j_goto K 2611 dL_law_1690 (by decide) ?_
    exact jW_mono (kk z9 V2 T' _ _ hI b5) (by omega) (by omega)
  · refine j_aload_n K 3 dL_law_1678 rfl rfl ?_
    refine j_iconst K 0 dL_law_1679 rfl ?_
    refine jLald K 0 dL_law_1680 rfl rfl rfl (by decide) ?_
    refine j_iload K dL_law_1681 rfl ?_
    rw [e1 hk]
    refine j_i2l K dL_law_1683 ?_
    refine j_lcmp K dL_law_1684 ?_
    rw [lg_cmp_self]
    refine j_if_eq K 1690 dL_law_1685 (by decide) (fun _ => ?_) (fun hne => absurd rfl hne)
    refine j_goto K 2611 dL_law_1690 (by decide) ?_
    exact jW_mono (kk z9 V2 T' _ _ hI b5) (by omega) (by omega)
set_option maxRecDepth 20000 in
set_option maxHeartbeats 400000 in
theorem law_paintUsed (K : jK p l room_1 s m args meth c D ca q0 sa RL cL_law 7 ret) (C : CaseS l D ca q0 sa ad yX5_paintUsed cX5_paintUsed 1 yX6_paintUsed cX6_paintUsed 1 T n V) (hkc : 1 ≤ kc) (hks : 6 ≤ ks) (kk : ∀ (z : Nat) (V : jV) (T' : Nat) (o5 o6 : Option Value), Inv T' n V V → T' ≤ T + 60 → jW p l e room_1 s m args below meth c D ca q0 ad 7 Q (kc - 1) (ks - 6) 2611 [some (.ref b), some (.ref (ad 0 0)), some (.ref (ad 20 0)), some (.ref (ad 60 0)), some (.int (nI i)), o5, o6] [] (jS z n V)) : jW p l e room_1 s m args below meth c D ca q0 ad 7 Q kc ks 1693 [some (.ref b), some (.ref (ad 0 0)), some (.ref (ad 20 0)), some (.ref (ad 60 0)), some (.int (nI i)), o5, o6] [] (jS z n V) := by
  obtain ⟨r, V1, V2, lx, lm, ⟨b1, b2⟩, hx, hm, hI⟩ := C
  refine j_aload_n K 1 dL_law_1693 rfl rfl ?_
  refine j_callV K dL_law_1694 m_X5_paintUsed v_X5_paintUsed k_L_213 rfl ⟨by decide, rfl⟩ rfl (hx z) rfl rfl (by simp [Value.category]) ⟨(by show _ ≤ 14; omega), (by show _ ≤ 518; omega)⟩ (Nat.zero_le _) (Nat.zero_le _) (fun v9 M9 hq => ?_) (fun E9 M9 hq => absurd hq.1 (fun w => nomatch w))
  obtain ⟨h9, rfl⟩ := hq
  cases h9
  refine j_aload_n K 2 dL_law_1697 rfl rfl ?_
  refine j_callV K dL_law_1698 m_X6_paintUsed v_X6_paintUsed k_L_216 rfl ⟨by decide, rfl⟩ rfl (hm z) rfl rfl (by simp [Value.category]) ⟨(by show _ ≤ 14; omega), (by show _ ≤ 518; omega)⟩ (Nat.zero_le _) (Nat.zero_le _) (fun v9 M9 hq => ?_) (fun E9 M9 hq => absurd hq.1 (fun w => nomatch w))
  obtain ⟨h9, rfl⟩ := hq
  cases h9
  refine j_icmp_eq K 2611 dL_law_1701 (by decide) (fun _ => ?_) (fun hne => absurd rfl hne)
  exact jW_mono (kk z V2 T _ _ hI (by omega)) (by omega) (by omega)
set_option maxRecDepth 20000 in
set_option maxHeartbeats 400000 in
theorem law_paintDripped (K : jK p l room_1 s m args meth c D ca q0 sa RL cL_law 7 ret) (C : CaseS l D ca q0 sa ad yX5_paintDripped cX5_paintDripped 1 yX6_paintDripped cX6_paintDripped 1 T n V) (hkc : 1 ≤ kc) (hks : 6 ≤ ks) (kk : ∀ (z : Nat) (V : jV) (T' : Nat) (o5 o6 : Option Value), Inv T' n V V → T' ≤ T + 60 → jW p l e room_1 s m args below meth c D ca q0 ad 7 Q (kc - 1) (ks - 6) 2611 [some (.ref b), some (.ref (ad 0 0)), some (.ref (ad 20 0)), some (.ref (ad 60 0)), some (.int (nI i)), o5, o6] [] (jS z n V)) : jW p l e room_1 s m args below meth c D ca q0 ad 7 Q kc ks 1706 [some (.ref b), some (.ref (ad 0 0)), some (.ref (ad 20 0)), some (.ref (ad 60 0)), some (.int (nI i)), o5, o6] [] (jS z n V) := by
  obtain ⟨r, V1, V2, lx, lm, ⟨b1, b2⟩, hx, hm, hI⟩ := C
  refine j_aload_n K 1 dL_law_1706 rfl rfl ?_
  refine j_callV K dL_law_1707 m_X5_paintDripped v_X5_paintDripped k_L_217 rfl ⟨by decide, rfl⟩ rfl (hx z) rfl rfl (by simp [Value.category]) ⟨(by show _ ≤ 14; omega), (by show _ ≤ 518; omega)⟩ (Nat.zero_le _) (Nat.zero_le _) (fun v9 M9 hq => ?_) (fun E9 M9 hq => absurd hq.1 (fun w => nomatch w))
  obtain ⟨h9, rfl⟩ := hq
  cases h9
  refine j_aload_n K 2 dL_law_1710 rfl rfl ?_
  refine j_callV K dL_law_1711 m_X6_paintDripped v_X6_paintDripped k_L_220 rfl ⟨by decide, rfl⟩ rfl (hm z) rfl rfl (by simp [Value.category]) ⟨(by show _ ≤ 14; omega), (by show _ ≤ 518; omega)⟩ (Nat.zero_le _) (Nat.zero_le _) (fun v9 M9 hq => ?_) (fun E9 M9 hq => absurd hq.1 (fun w => nomatch w))
  obtain ⟨h9, rfl⟩ := hq
  cases h9
  refine j_icmp_eq K 2611 dL_law_1714 (by decide) (fun _ => ?_) (fun hne => absurd rfl hne)
  exact jW_mono (kk z V2 T _ _ hI (by omega)) (by omega) (by omega)
set_option maxRecDepth 20000 in
set_option maxHeartbeats 400000 in
theorem law_paintPoured (K : jK p l room_1 s m args meth c D ca q0 sa RL cL_law 7 ret) (C : CaseS l D ca q0 sa ad yX5_paintPoured cX5_paintPoured 1 yX6_paintPoured cX6_paintPoured 1 T n V) (hkc : 1 ≤ kc) (hks : 6 ≤ ks) (kk : ∀ (z : Nat) (V : jV) (T' : Nat) (o5 o6 : Option Value), Inv T' n V V → T' ≤ T + 60 → jW p l e room_1 s m args below meth c D ca q0 ad 7 Q (kc - 1) (ks - 6) 2611 [some (.ref b), some (.ref (ad 0 0)), some (.ref (ad 20 0)), some (.ref (ad 60 0)), some (.int (nI i)), o5, o6] [] (jS z n V)) : jW p l e room_1 s m args below meth c D ca q0 ad 7 Q kc ks 1719 [some (.ref b), some (.ref (ad 0 0)), some (.ref (ad 20 0)), some (.ref (ad 60 0)), some (.int (nI i)), o5, o6] [] (jS z n V) := by
  obtain ⟨r, V1, V2, lx, lm, ⟨b1, b2⟩, hx, hm, hI⟩ := C
  refine j_aload_n K 1 dL_law_1719 rfl rfl ?_
  refine j_callV K dL_law_1720 m_X5_paintPoured v_X5_paintPoured k_L_221 rfl ⟨by decide, rfl⟩ rfl (hx z) rfl rfl (by simp [Value.category]) ⟨(by show _ ≤ 14; omega), (by show _ ≤ 518; omega)⟩ (Nat.zero_le _) (Nat.zero_le _) (fun v9 M9 hq => ?_) (fun E9 M9 hq => absurd hq.1 (fun w => nomatch w))
  obtain ⟨h9, rfl⟩ := hq
  cases h9
  refine j_aload_n K 2 dL_law_1723 rfl rfl ?_
  refine j_callV K dL_law_1724 m_X6_paintPoured v_X6_paintPoured k_L_224 rfl ⟨by decide, rfl⟩ rfl (hm z) rfl rfl (by simp [Value.category]) ⟨(by show _ ≤ 14; omega), (by show _ ≤ 518; omega)⟩ (Nat.zero_le _) (Nat.zero_le _) (fun v9 M9 hq => ?_) (fun E9 M9 hq => absurd hq.1 (fun w => nomatch w))
  obtain ⟨h9, rfl⟩ := hq
  cases h9
  refine j_icmp_eq K 2611 dL_law_1727 (by decide) (fun _ => ?_) (fun hne => absurd rfl hne)
  exact jW_mono (kk z V2 T _ _ hI (by omega)) (by omega) (by omega)
set_option maxRecDepth 20000 in
set_option maxHeartbeats 400000 in
theorem law_order (K : jK p l room_1 s m args meth c D ca q0 sa RL cL_law 7 ret) (hN : jNc s) (hX : jX s q0 b L xs) (hi : i + 6 ≤ L) (C : Case l D ca q0 sa ad yL_order cL_order 5 hL_order yX6_order cX6_order 3 (some .int) [.int (xs (i + 1)), .int (xs (i + 2))] T n V) (hkc : 1 ≤ kc) (hks : 6 ≤ ks) (kk : ∀ (z : Nat) (V : jV) (T' : Nat) (o5 o6 : Option Value), Inv T' n V V → T' ≤ T + 60 → jW p l e room_1 s m args below meth c D ca q0 ad 7 Q (kc - 1) (ks - 6) 2611 [some (.ref b), some (.ref (ad 0 0)), some (.ref (ad 20 0)), some (.ref (ad 60 0)), some (.int (nI i)), o5, o6] [] (jS z n V)) : jW p l e room_1 s m args below meth c D ca q0 ad 7 Q kc ks 1732 [some (.ref b), some (.ref (ad 0 0)), some (.ref (ad 20 0)), some (.ref (ad 60 0)), some (.int (nI i)), o5, o6] [] (jS z n V) := by
  obtain ⟨k, r, V1, V2, lx, lm, mc, ms, T', ⟨b1, b2, b3, b4, b5⟩, hx, hm, e0, e1, hI⟩ := C
  refine j_aload_n K 1 dL_law_1732 rfl rfl ?_
  refine j_aload_n K 0 dL_law_1733 rfl rfl ?_
  refine j_iload K dL_law_1734 rfl ?_
  refine j_iconst K 1 dL_law_1736 rfl ?_
  refine j_iadd K dL_law_1737 ?_
  refine j_sald K hX (i + 1) dL_law_1738 (jx_add (a := i) (b := 1) rfl rfl) (by omega) ?_
  refine j_aload_n K 0 dL_law_1739 rfl rfl ?_
  refine j_iload K dL_law_1740 rfl ?_
  refine j_iconst K 2 dL_law_1742 rfl ?_
  refine j_iadd K dL_law_1743 ?_
  refine j_sald K hX (i + 2) dL_law_1744 (jx_add (a := i) (b := 2) rfl rfl) (by omega) ?_
  refine j_aload_n K 3 dL_law_1745 rfl rfl ?_
  refine j_callSH K hN dL_law_1746 mw_order sw_order k_L_225 (hx z) rfl rfl (by simp [Value.category]) ⟨(by show _ ≤ 14; omega), (by show _ ≤ 518; omega)⟩ (by omega) (by omega) (fun v9 M9 hq => ?_) (fun E9 M9 hq => absurd hq.1 (fun w => nomatch w))
  obtain ⟨h9, hM⟩ := hq
  cases h9
  obtain ⟨z9, q9⟩ := M9
  cases hM
  refine j_istore K dL_law_1749 (by decide) ?_
  refine j_aload_n K 2 dL_law_1751 rfl rfl ?_
  refine j_aload_n K 0 dL_law_1752 rfl rfl ?_
  refine j_iload K dL_law_1753 rfl ?_
  refine j_iconst K 1 dL_law_1755 rfl ?_
  refine j_iadd K dL_law_1756 ?_
  refine j_sald K hX (i + 1) dL_law_1757 (jx_add (a := i) (b := 1) rfl rfl) (by omega) ?_
  refine j_aload_n K 0 dL_law_1758 rfl rfl ?_
  refine j_iload K dL_law_1759 rfl ?_
  refine j_iconst K 2 dL_law_1761 rfl ?_
  refine j_iadd K dL_law_1762 ?_
  refine j_sald K hX (i + 2) dL_law_1763 (jx_add (a := i) (b := 2) rfl rfl) (by omega) ?_
  refine j_callV K dL_law_1764 m_X6_order v_X6_order k_L_227 rfl ⟨by decide, rfl⟩ rfl (hm z9) rfl rfl (by simp [Value.category]) ⟨(by show _ ≤ 14; omega), (by show _ ≤ 518; omega)⟩ (Nat.zero_le _) (Nat.zero_le _) (fun v9 M9 hq => ?_) (fun E9 M9 hq => absurd hq.1 (fun w => nomatch w))
  obtain ⟨h9, rfl⟩ := hq
  cases h9
  refine j_istore K dL_law_1767 (by decide) ?_
  refine j_aload_n K 2 dL_law_1769 rfl rfl ?_
  refine j_callV K dL_law_1770 m_X6_thrown v_X6_thrown k_L_139 rfl ⟨by decide, rfl⟩ rfl c_M_thrown rfl rfl (by simp [Value.category]) ⟨(by show _ ≤ 14; decide), (by show _ ≤ 518; decide)⟩ (Nat.zero_le _) (Nat.zero_le _) (fun v9 M9 hq => ?_) (fun E9 M9 hq => absurd hq.1 (fun w => nomatch w))
  obtain ⟨h9, rfl⟩ := hq
  cases h9
  refine j_iload K dL_law_1773 rfl ?_
  refine j_icmp_eq K 1780 dL_law_1775 (by decide) (fun _ => ?_) (fun hne => absurd e0 hne)
  refine j_iload K dL_law_1780 rfl ?_
  refine j_if_ne K 1797 dL_law_1782 (by decide) (fun hk => ?_) (fun hk => ?_)
  · refine j_goto K 2611 dL_law_1797 (by decide) ?_
    exact jW_mono (kk z9 V2 T' _ _ hI b5) (by omega) (by omega)
  · refine j_aload_n K 3 dL_law_1785 rfl rfl ?_
    refine j_iconst K 0 dL_law_1786 rfl ?_
    refine jLald K 0 dL_law_1787 rfl rfl rfl (by decide) ?_
    refine j_iload K dL_law_1788 rfl ?_
    rw [e1 hk]
    refine j_i2l K dL_law_1790 ?_
    refine j_lcmp K dL_law_1791 ?_
    rw [lg_cmp_self]
    refine j_if_eq K 1797 dL_law_1792 (by decide) (fun _ => ?_) (fun hne => absurd rfl hne)
    refine j_goto K 2611 dL_law_1797 (by decide) ?_
    exact jW_mono (kk z9 V2 T' _ _ hI b5) (by omega) (by omega)
set_option maxRecDepth 20000 in
set_option maxHeartbeats 400000 in
theorem law_cancelOrder (K : jK p l room_1 s m args meth c D ca q0 sa RL cL_law 7 ret) (hN : jNc s) (hX : jX s q0 b L xs) (hi : i + 6 ≤ L) (C : Case l D ca q0 sa ad yL_cancelOrder cL_cancelOrder 4 hL_cancelOrder yX6_cancelOrder cX6_cancelOrder 3 (some .int) [.int (xs (i + 1))] T n V) (hkc : 1 ≤ kc) (hks : 6 ≤ ks) (kk : ∀ (z : Nat) (V : jV) (T' : Nat) (o5 o6 : Option Value), Inv T' n V V → T' ≤ T + 60 → jW p l e room_1 s m args below meth c D ca q0 ad 7 Q (kc - 1) (ks - 6) 2611 [some (.ref b), some (.ref (ad 0 0)), some (.ref (ad 20 0)), some (.ref (ad 60 0)), some (.int (nI i)), o5, o6] [] (jS z n V)) : jW p l e room_1 s m args below meth c D ca q0 ad 7 Q kc ks 1800 [some (.ref b), some (.ref (ad 0 0)), some (.ref (ad 20 0)), some (.ref (ad 60 0)), some (.int (nI i)), o5, o6] [] (jS z n V) := by
  obtain ⟨k, r, V1, V2, lx, lm, mc, ms, T', ⟨b1, b2, b3, b4, b5⟩, hx, hm, e0, e1, hI⟩ := C
  refine j_aload_n K 1 dL_law_1800 rfl rfl ?_
  refine j_aload_n K 0 dL_law_1801 rfl rfl ?_
  refine j_iload K dL_law_1802 rfl ?_
  refine j_iconst K 1 dL_law_1804 rfl ?_
  refine j_iadd K dL_law_1805 ?_
  refine j_sald K hX (i + 1) dL_law_1806 (jx_add (a := i) (b := 1) rfl rfl) (by omega) ?_
  refine j_aload_n K 3 dL_law_1807 rfl rfl ?_
  refine j_callSH K hN dL_law_1808 mw_cancelOrder sw_cancelOrder k_L_228 (hx z) rfl rfl (by simp [Value.category]) ⟨(by show _ ≤ 14; omega), (by show _ ≤ 518; omega)⟩ (by omega) (by omega) (fun v9 M9 hq => ?_) (fun E9 M9 hq => absurd hq.1 (fun w => nomatch w))
  obtain ⟨h9, hM⟩ := hq
  cases h9
  obtain ⟨z9, q9⟩ := M9
  cases hM
  refine j_istore K dL_law_1811 (by decide) ?_
  refine j_aload_n K 2 dL_law_1813 rfl rfl ?_
  refine j_aload_n K 0 dL_law_1814 rfl rfl ?_
  refine j_iload K dL_law_1815 rfl ?_
  refine j_iconst K 1 dL_law_1817 rfl ?_
  refine j_iadd K dL_law_1818 ?_
  refine j_sald K hX (i + 1) dL_law_1819 (jx_add (a := i) (b := 1) rfl rfl) (by omega) ?_
  refine j_callV K dL_law_1820 m_X6_cancelOrder v_X6_cancelOrder k_L_230 rfl ⟨by decide, rfl⟩ rfl (hm z9) rfl rfl (by simp [Value.category]) ⟨(by show _ ≤ 14; omega), (by show _ ≤ 518; omega)⟩ (Nat.zero_le _) (Nat.zero_le _) (fun v9 M9 hq => ?_) (fun E9 M9 hq => absurd hq.1 (fun w => nomatch w))
  obtain ⟨h9, rfl⟩ := hq
  cases h9
  refine j_istore K dL_law_1823 (by decide) ?_
  refine j_aload_n K 2 dL_law_1825 rfl rfl ?_
  refine j_callV K dL_law_1826 m_X6_thrown v_X6_thrown k_L_139 rfl ⟨by decide, rfl⟩ rfl c_M_thrown rfl rfl (by simp [Value.category]) ⟨(by show _ ≤ 14; decide), (by show _ ≤ 518; decide)⟩ (Nat.zero_le _) (Nat.zero_le _) (fun v9 M9 hq => ?_) (fun E9 M9 hq => absurd hq.1 (fun w => nomatch w))
  obtain ⟨h9, rfl⟩ := hq
  cases h9
  refine j_iload K dL_law_1829 rfl ?_
  refine j_icmp_eq K 1836 dL_law_1831 (by decide) (fun _ => ?_) (fun hne => absurd e0 hne)
  refine j_iload K dL_law_1836 rfl ?_
  refine j_if_ne K 1853 dL_law_1838 (by decide) (fun hk => ?_) (fun hk => ?_)
  · refine j_goto K 2611 dL_law_1853 (by decide) ?_
    exact jW_mono (kk z9 V2 T' _ _ hI b5) (by omega) (by omega)
  · refine j_aload_n K 3 dL_law_1841 rfl rfl ?_
    refine j_iconst K 0 dL_law_1842 rfl ?_
    refine jLald K 0 dL_law_1843 rfl rfl rfl (by decide) ?_
    refine j_iload K dL_law_1844 rfl ?_
    rw [e1 hk]
    refine j_i2l K dL_law_1846 ?_
    refine j_lcmp K dL_law_1847 ?_
    rw [lg_cmp_self]
    refine j_if_eq K 1853 dL_law_1848 (by decide) (fun _ => ?_) (fun hne => absurd rfl hne)
    refine j_goto K 2611 dL_law_1853 (by decide) ?_
    exact jW_mono (kk z9 V2 T' _ _ hI b5) (by omega) (by omega)
set_option maxRecDepth 20000 in
set_option maxHeartbeats 400000 in
theorem law_waitingOrders (K : jK p l room_1 s m args meth c D ca q0 sa RL cL_law 7 ret) (C : CaseS l D ca q0 sa ad yX5_waitingOrders cX5_waitingOrders 3 yX6_waitingOrders cX6_waitingOrders 3 T n V) (hkc : 1 ≤ kc) (hks : 6 ≤ ks) (kk : ∀ (z : Nat) (V : jV) (T' : Nat) (o5 o6 : Option Value), Inv T' n V V → T' ≤ T + 60 → jW p l e room_1 s m args below meth c D ca q0 ad 7 Q (kc - 1) (ks - 6) 2611 [some (.ref b), some (.ref (ad 0 0)), some (.ref (ad 20 0)), some (.ref (ad 60 0)), some (.int (nI i)), o5, o6] [] (jS z n V)) : jW p l e room_1 s m args below meth c D ca q0 ad 7 Q kc ks 1856 [some (.ref b), some (.ref (ad 0 0)), some (.ref (ad 20 0)), some (.ref (ad 60 0)), some (.int (nI i)), o5, o6] [] (jS z n V) := by
  obtain ⟨r, V1, V2, lx, lm, ⟨b1, b2⟩, hx, hm, hI⟩ := C
  refine j_aload_n K 1 dL_law_1856 rfl rfl ?_
  refine j_callV K dL_law_1857 m_X5_waitingOrders v_X5_waitingOrders k_L_231 rfl ⟨by decide, rfl⟩ rfl (hx z) rfl rfl (by simp [Value.category]) ⟨(by show _ ≤ 14; omega), (by show _ ≤ 518; omega)⟩ (Nat.zero_le _) (Nat.zero_le _) (fun v9 M9 hq => ?_) (fun E9 M9 hq => absurd hq.1 (fun w => nomatch w))
  obtain ⟨h9, rfl⟩ := hq
  cases h9
  refine j_aload_n K 2 dL_law_1860 rfl rfl ?_
  refine j_callV K dL_law_1861 m_X6_waitingOrders v_X6_waitingOrders k_L_234 rfl ⟨by decide, rfl⟩ rfl (hm z) rfl rfl (by simp [Value.category]) ⟨(by show _ ≤ 14; omega), (by show _ ≤ 518; omega)⟩ (Nat.zero_le _) (Nat.zero_le _) (fun v9 M9 hq => ?_) (fun E9 M9 hq => absurd hq.1 (fun w => nomatch w))
  obtain ⟨h9, rfl⟩ := hq
  cases h9
  refine j_icmp_eq K 2611 dL_law_1864 (by decide) (fun _ => ?_) (fun hne => absurd rfl hne)
  exact jW_mono (kk z V2 T _ _ hI (by omega)) (by omega) (by omega)
set_option maxRecDepth 20000 in
set_option maxHeartbeats 400000 in
theorem law_waitingPier (K : jK p l room_1 s m args meth c D ca q0 sa RL cL_law 7 ret) (hN : jNc s) (hX : jX s q0 b L xs) (hi : i + 6 ≤ L) (C : Case l D ca q0 sa ad yL_waitingPier cL_waitingPier 4 hL_waitingPier yX6_waitingPier cX6_waitingPier 3 (some .int) [.int (xs (i + 1))] T n V) (hkc : 1 ≤ kc) (hks : 6 ≤ ks) (kk : ∀ (z : Nat) (V : jV) (T' : Nat) (o5 o6 : Option Value), Inv T' n V V → T' ≤ T + 60 → jW p l e room_1 s m args below meth c D ca q0 ad 7 Q (kc - 1) (ks - 6) 2611 [some (.ref b), some (.ref (ad 0 0)), some (.ref (ad 20 0)), some (.ref (ad 60 0)), some (.int (nI i)), o5, o6] [] (jS z n V)) : jW p l e room_1 s m args below meth c D ca q0 ad 7 Q kc ks 1869 [some (.ref b), some (.ref (ad 0 0)), some (.ref (ad 20 0)), some (.ref (ad 60 0)), some (.int (nI i)), o5, o6] [] (jS z n V) := by
  obtain ⟨k, r, V1, V2, lx, lm, mc, ms, T', ⟨b1, b2, b3, b4, b5⟩, hx, hm, e0, e1, hI⟩ := C
  refine j_aload_n K 1 dL_law_1869 rfl rfl ?_
  refine j_aload_n K 0 dL_law_1870 rfl rfl ?_
  refine j_iload K dL_law_1871 rfl ?_
  refine j_iconst K 1 dL_law_1873 rfl ?_
  refine j_iadd K dL_law_1874 ?_
  refine j_sald K hX (i + 1) dL_law_1875 (jx_add (a := i) (b := 1) rfl rfl) (by omega) ?_
  refine j_aload_n K 3 dL_law_1876 rfl rfl ?_
  refine j_callSH K hN dL_law_1877 mw_waitingPier sw_waitingPier k_L_235 (hx z) rfl rfl (by simp [Value.category]) ⟨(by show _ ≤ 14; omega), (by show _ ≤ 518; omega)⟩ (by omega) (by omega) (fun v9 M9 hq => ?_) (fun E9 M9 hq => absurd hq.1 (fun w => nomatch w))
  obtain ⟨h9, hM⟩ := hq
  cases h9
  obtain ⟨z9, q9⟩ := M9
  cases hM
  refine j_istore K dL_law_1880 (by decide) ?_
  refine j_aload_n K 2 dL_law_1882 rfl rfl ?_
  refine j_aload_n K 0 dL_law_1883 rfl rfl ?_
  refine j_iload K dL_law_1884 rfl ?_
  refine j_iconst K 1 dL_law_1886 rfl ?_
  refine j_iadd K dL_law_1887 ?_
  refine j_sald K hX (i + 1) dL_law_1888 (jx_add (a := i) (b := 1) rfl rfl) (by omega) ?_
  refine j_callV K dL_law_1889 m_X6_waitingPier v_X6_waitingPier k_L_237 rfl ⟨by decide, rfl⟩ rfl (hm z9) rfl rfl (by simp [Value.category]) ⟨(by show _ ≤ 14; omega), (by show _ ≤ 518; omega)⟩ (Nat.zero_le _) (Nat.zero_le _) (fun v9 M9 hq => ?_) (fun E9 M9 hq => absurd hq.1 (fun w => nomatch w))
  obtain ⟨h9, rfl⟩ := hq
  cases h9
  refine j_istore K dL_law_1892 (by decide) ?_
  refine j_aload_n K 2 dL_law_1894 rfl rfl ?_
  refine j_callV K dL_law_1895 m_X6_thrown v_X6_thrown k_L_139 rfl ⟨by decide, rfl⟩ rfl c_M_thrown rfl rfl (by simp [Value.category]) ⟨(by show _ ≤ 14; decide), (by show _ ≤ 518; decide)⟩ (Nat.zero_le _) (Nat.zero_le _) (fun v9 M9 hq => ?_) (fun E9 M9 hq => absurd hq.1 (fun w => nomatch w))
  obtain ⟨h9, rfl⟩ := hq
  cases h9
  refine j_iload K dL_law_1898 rfl ?_
  refine j_icmp_eq K 1905 dL_law_1900 (by decide) (fun _ => ?_) (fun hne => absurd e0 hne)
  refine j_iload K dL_law_1905 rfl ?_
  refine j_if_ne K 1922 dL_law_1907 (by decide) (fun hk => ?_) (fun hk => ?_)
  · refine j_goto K 2611 dL_law_1922 (by decide) ?_
    exact jW_mono (kk z9 V2 T' _ _ hI b5) (by omega) (by omega)
  · refine j_aload_n K 3 dL_law_1910 rfl rfl ?_
    refine j_iconst K 0 dL_law_1911 rfl ?_
    refine jLald K 0 dL_law_1912 rfl rfl rfl (by decide) ?_
    refine j_iload K dL_law_1913 rfl ?_
    rw [e1 hk]
    refine j_i2l K dL_law_1915 ?_
    refine j_lcmp K dL_law_1916 ?_
    rw [lg_cmp_self]
    refine j_if_eq K 1922 dL_law_1917 (by decide) (fun _ => ?_) (fun hne => absurd rfl hne)
    refine j_goto K 2611 dL_law_1922 (by decide) ?_
    exact jW_mono (kk z9 V2 T' _ _ hI b5) (by omega) (by omega)
set_option maxRecDepth 20000 in
set_option maxHeartbeats 400000 in
theorem law_jobPier (K : jK p l room_1 s m args meth c D ca q0 sa RL cL_law 7 ret) (C : CaseS l D ca q0 sa ad yX5_jobPier cX5_jobPier 1 yX6_jobPier cX6_jobPier 1 T n V) (hkc : 1 ≤ kc) (hks : 6 ≤ ks) (kk : ∀ (z : Nat) (V : jV) (T' : Nat) (o5 o6 : Option Value), Inv T' n V V → T' ≤ T + 60 → jW p l e room_1 s m args below meth c D ca q0 ad 7 Q (kc - 1) (ks - 6) 2611 [some (.ref b), some (.ref (ad 0 0)), some (.ref (ad 20 0)), some (.ref (ad 60 0)), some (.int (nI i)), o5, o6] [] (jS z n V)) : jW p l e room_1 s m args below meth c D ca q0 ad 7 Q kc ks 1925 [some (.ref b), some (.ref (ad 0 0)), some (.ref (ad 20 0)), some (.ref (ad 60 0)), some (.int (nI i)), o5, o6] [] (jS z n V) := by
  obtain ⟨r, V1, V2, lx, lm, ⟨b1, b2⟩, hx, hm, hI⟩ := C
  refine j_aload_n K 1 dL_law_1925 rfl rfl ?_
  refine j_callV K dL_law_1926 m_X5_jobPier v_X5_jobPier k_L_238 rfl ⟨by decide, rfl⟩ rfl (hx z) rfl rfl (by simp [Value.category]) ⟨(by show _ ≤ 14; omega), (by show _ ≤ 518; omega)⟩ (Nat.zero_le _) (Nat.zero_le _) (fun v9 M9 hq => ?_) (fun E9 M9 hq => absurd hq.1 (fun w => nomatch w))
  obtain ⟨h9, rfl⟩ := hq
  cases h9
  refine j_aload_n K 2 dL_law_1929 rfl rfl ?_
  refine j_callV K dL_law_1930 m_X6_jobPier v_X6_jobPier k_L_241 rfl ⟨by decide, rfl⟩ rfl (hm z) rfl rfl (by simp [Value.category]) ⟨(by show _ ≤ 14; omega), (by show _ ≤ 518; omega)⟩ (Nat.zero_le _) (Nat.zero_le _) (fun v9 M9 hq => ?_) (fun E9 M9 hq => absurd hq.1 (fun w => nomatch w))
  obtain ⟨h9, rfl⟩ := hq
  cases h9
  refine j_icmp_eq K 2611 dL_law_1933 (by decide) (fun _ => ?_) (fun hne => absurd rfl hne)
  exact jW_mono (kk z V2 T _ _ hI (by omega)) (by omega) (by omega)
set_option maxRecDepth 20000 in
set_option maxHeartbeats 400000 in
theorem law_linesToPaint (K : jK p l room_1 s m args meth c D ca q0 sa RL cL_law 7 ret) (C : CaseS l D ca q0 sa ad yX5_linesToPaint cX5_linesToPaint 1 yX6_linesToPaint cX6_linesToPaint 1 T n V) (hkc : 1 ≤ kc) (hks : 6 ≤ ks) (kk : ∀ (z : Nat) (V : jV) (T' : Nat) (o5 o6 : Option Value), Inv T' n V V → T' ≤ T + 60 → jW p l e room_1 s m args below meth c D ca q0 ad 7 Q (kc - 1) (ks - 6) 2611 [some (.ref b), some (.ref (ad 0 0)), some (.ref (ad 20 0)), some (.ref (ad 60 0)), some (.int (nI i)), o5, o6] [] (jS z n V)) : jW p l e room_1 s m args below meth c D ca q0 ad 7 Q kc ks 1938 [some (.ref b), some (.ref (ad 0 0)), some (.ref (ad 20 0)), some (.ref (ad 60 0)), some (.int (nI i)), o5, o6] [] (jS z n V) := by
  obtain ⟨r, V1, V2, lx, lm, ⟨b1, b2⟩, hx, hm, hI⟩ := C
  refine j_aload_n K 1 dL_law_1938 rfl rfl ?_
  refine j_callV K dL_law_1939 m_X5_linesToPaint v_X5_linesToPaint k_L_242 rfl ⟨by decide, rfl⟩ rfl (hx z) rfl rfl (by simp [Value.category]) ⟨(by show _ ≤ 14; omega), (by show _ ≤ 518; omega)⟩ (Nat.zero_le _) (Nat.zero_le _) (fun v9 M9 hq => ?_) (fun E9 M9 hq => absurd hq.1 (fun w => nomatch w))
  obtain ⟨h9, rfl⟩ := hq
  cases h9
  refine j_aload_n K 2 dL_law_1942 rfl rfl ?_
  refine j_callV K dL_law_1943 m_X6_linesToPaint v_X6_linesToPaint k_L_245 rfl ⟨by decide, rfl⟩ rfl (hm z) rfl rfl (by simp [Value.category]) ⟨(by show _ ≤ 14; omega), (by show _ ≤ 518; omega)⟩ (Nat.zero_le _) (Nat.zero_le _) (fun v9 M9 hq => ?_) (fun E9 M9 hq => absurd hq.1 (fun w => nomatch w))
  obtain ⟨h9, rfl⟩ := hq
  cases h9
  refine j_icmp_eq K 2611 dL_law_1946 (by decide) (fun _ => ?_) (fun hne => absurd rfl hne)
  exact jW_mono (kk z V2 T _ _ hI (by omega)) (by omega) (by omega)
set_option maxRecDepth 20000 in
set_option maxHeartbeats 400000 in
theorem law_paint (K : jK p l room_1 s m args meth c D ca q0 sa RL cL_law 7 ret) (hN : jNc s) (hX : jX s q0 b L xs) (hi : i + 6 ≤ L) (C : Case l D ca q0 sa ad yL_paint cL_paint 4 hL_paint yX6_paint cX6_paint 3 (some .int) [.int (xs (i + 1))] T n V) (hkc : 1 ≤ kc) (hks : 6 ≤ ks) (kk : ∀ (z : Nat) (V : jV) (T' : Nat) (o5 o6 : Option Value), Inv T' n V V → T' ≤ T + 60 → jW p l e room_1 s m args below meth c D ca q0 ad 7 Q (kc - 1) (ks - 6) 2611 [some (.ref b), some (.ref (ad 0 0)), some (.ref (ad 20 0)), some (.ref (ad 60 0)), some (.int (nI i)), o5, o6] [] (jS z n V)) : jW p l e room_1 s m args below meth c D ca q0 ad 7 Q kc ks 1951 [some (.ref b), some (.ref (ad 0 0)), some (.ref (ad 20 0)), some (.ref (ad 60 0)), some (.int (nI i)), o5, o6] [] (jS z n V) := by
  obtain ⟨k, r, V1, V2, lx, lm, mc, ms, T', ⟨b1, b2, b3, b4, b5⟩, hx, hm, e0, e1, hI⟩ := C
  refine j_aload_n K 1 dL_law_1951 rfl rfl ?_
  refine j_aload_n K 0 dL_law_1952 rfl rfl ?_
  refine j_iload K dL_law_1953 rfl ?_
  refine j_iconst K 1 dL_law_1955 rfl ?_
  refine j_iadd K dL_law_1956 ?_
  refine j_sald K hX (i + 1) dL_law_1957 (jx_add (a := i) (b := 1) rfl rfl) (by omega) ?_
  refine j_aload_n K 3 dL_law_1958 rfl rfl ?_
  refine j_callSH K hN dL_law_1959 mw_paint sw_paint k_L_246 (hx z) rfl rfl (by simp [Value.category]) ⟨(by show _ ≤ 14; omega), (by show _ ≤ 518; omega)⟩ (by omega) (by omega) (fun v9 M9 hq => ?_) (fun E9 M9 hq => absurd hq.1 (fun w => nomatch w))
  obtain ⟨h9, hM⟩ := hq
  cases h9
  obtain ⟨z9, q9⟩ := M9
  cases hM
  refine j_istore K dL_law_1962 (by decide) ?_
  refine j_aload_n K 2 dL_law_1964 rfl rfl ?_
  refine j_aload_n K 0 dL_law_1965 rfl rfl ?_
  refine j_iload K dL_law_1966 rfl ?_
  refine j_iconst K 1 dL_law_1968 rfl ?_
  refine j_iadd K dL_law_1969 ?_
  refine j_sald K hX (i + 1) dL_law_1970 (jx_add (a := i) (b := 1) rfl rfl) (by omega) ?_
  refine j_callV K dL_law_1971 m_X6_paint v_X6_paint k_L_248 rfl ⟨by decide, rfl⟩ rfl (hm z9) rfl rfl (by simp [Value.category]) ⟨(by show _ ≤ 14; omega), (by show _ ≤ 518; omega)⟩ (Nat.zero_le _) (Nat.zero_le _) (fun v9 M9 hq => ?_) (fun E9 M9 hq => absurd hq.1 (fun w => nomatch w))
  obtain ⟨h9, rfl⟩ := hq
  cases h9
  refine j_istore K dL_law_1974 (by decide) ?_
  refine j_aload_n K 2 dL_law_1976 rfl rfl ?_
  refine j_callV K dL_law_1977 m_X6_thrown v_X6_thrown k_L_139 rfl ⟨by decide, rfl⟩ rfl c_M_thrown rfl rfl (by simp [Value.category]) ⟨(by show _ ≤ 14; decide), (by show _ ≤ 518; decide)⟩ (Nat.zero_le _) (Nat.zero_le _) (fun v9 M9 hq => ?_) (fun E9 M9 hq => absurd hq.1 (fun w => nomatch w))
  obtain ⟨h9, rfl⟩ := hq
  cases h9
  refine j_iload K dL_law_1980 rfl ?_
  refine j_icmp_eq K 1987 dL_law_1982 (by decide) (fun _ => ?_) (fun hne => absurd e0 hne)
  refine j_iload K dL_law_1987 rfl ?_
  refine j_if_ne K 2004 dL_law_1989 (by decide) (fun hk => ?_) (fun hk => ?_)
  · refine j_goto K 2611 dL_law_2004 (by decide) ?_
    exact jW_mono (kk z9 V2 T' _ _ hI b5) (by omega) (by omega)
  · refine j_aload_n K 3 dL_law_1992 rfl rfl ?_
    refine j_iconst K 0 dL_law_1993 rfl ?_
    refine jLald K 0 dL_law_1994 rfl rfl rfl (by decide) ?_
    refine j_iload K dL_law_1995 rfl ?_
    rw [e1 hk]
    refine j_i2l K dL_law_1997 ?_
    refine j_lcmp K dL_law_1998 ?_
    rw [lg_cmp_self]
    refine j_if_eq K 2004 dL_law_1999 (by decide) (fun _ => ?_) (fun hne => absurd rfl hne)
    refine j_goto K 2611 dL_law_2004 (by decide) ?_
    exact jW_mono (kk z9 V2 T' _ _ hI b5) (by omega) (by omega)
end W
