abbrev jXn : List String := ["java/lang/RuntimeException", "java/lang/Exception"]
def jThr (ik ic : Nat) (cls : String) : Prop := Bundle.fit cls = true ∧ Cond.classLink RX5 ik cls ∈ WG ∧ Cond.initialized cls ∈ WG ∧ (∀ w ∈ (vx_atS RX5 ic cls jXn).filter goodWord, w ∈ WG) ∧ (∀ w ∈ (vx_atS RX5 ic cls jXn).filter (fun w => !goodWord w), w ∈ OW) ∧ (∀ w ∈ Cond.classLink RX5 ik cls :: Cond.initialized cls :: vx_atS RX5 ic cls jXn, vx_ot w = true)
theorem jXn_fit : ∀ n ∈ jXn, Bundle.fit n = true := by decide +kernel
section J
variable {p : Program} {l : Launch} {e : Env} {R : Room} {s : State} {m : MethodId} {args : Array Value} {below : List Frame} {meth : Method} {c : Code} {D : va_G} {ca : Nat → ClassId} {q0 : Nat} {sa : Nat → Nat} {ad : jAd} {cc : ByteArray} {nL : Nat} {ret : Option FieldType} {Q : State → Prop} {kc ks pc : Nat} {ls : List (Option Value)} {st : List Value} {M : jM}
variable {lvl mc ms : Nat} {Q0 : jO → jM → Prop}
theorem j_throw (K : jK p l (jRm lvl mc ms) s m args meth c D ca q0 sa RX5 cc nL ret) (hX : ∀ x ∈ c.exceptionTable.toList, False) {ik is ic : Nat} {cls text : String} (hw : jThr ik ic cls) (hstr : (is, text) ∈ jStr)
    (d0 : decode cc pc = .ok (.new ik, 3)) (d3 : decode cc (pc + 3) = .ok (.dup, 1)) (d4 : decode cc (pc + 4) = .ok (.ldc is, 2)) (d6 : decode cc (pc + 6) = .ok (.invokespecial ic, 3)) (d9 : decode cc (pc + 9) = .ok (.athrow, 1))
    (hc : 1 ≤ kc) (hs : 6 ≤ ks) (hsum : (st.map fun v => v.category).sum ≤ 8) (hq : ∀ z, Q0 (.inr cls) (z, M.2)) : jW p l e (jRm lvl mc ms) s m args below meth c D ca q0 ad nL (jZ below args s D ca q0 ad mc ms Q0) kc ks pc ls st M := by
  intro H locs lsC cells slots h1 h2 h3 h4 h5
  obtain ⟨hfit, w1, w2, w3, w4, w5⟩ := hw
  have hts := K.2.2.2.2.1
  have hE := K.2.2.2.2.2.2.1
  have h4' : cells + kc ≤ mc := h4
  have h5' : slots + ks ≤ ms := h5
  exact vx_throwS (A := fun q => q0 ≤ q) (sa := sa is) K.1 K.2.1 K.2.2.2.2.2.2.2.2.2 K.2.2.2.1 hfit jXn_fit (hts _ w1) (hts _ w2) (hE.2.2.2.1 _ hstr)
    (vx_hat (B := OW) (fun w hw => hts _ (w3 w hw)) w4 (fun w hw => jK_ow K hw)) w5 hE.2.1 hE.2.2.1 h3 (h1.1.trans K.2.2.1.symm) d0 d3 d4 d6 d9 (fun x hx => (hX x hx).elim)
    (by show 2 + 3 < 6 + lvl; omega) (by show _ + (13 * (2 + 1) + 43) ≤ 100 + 30 * lvl; omega) (by show cells + 1 ≤ mc; omega) (by show slots + 6 ≤ ms; omega) K.2.2.2.2.2.1
    (fun t hA hz hk => ⟨(t.heap.size, M.2), hq _, jRep_grow h2 hk, ⟨Nat.le_trans h3.1 hz, fun q h6 h7 => by rw [hk q (Nat.lt_of_lt_of_le h6 h3.1)]; exact h3.2.1 q h6 h7⟩⟩) h3.2.2 (by omega) (by omega)
theorem j_throwW (K : jK p l (jRm lvl mc ms) s m args meth c D ca q0 sa RX5 cc nL ret) (hX : ∀ x ∈ c.exceptionTable.toList, False) {ik is ic : Nat} {cls text : String} (hw : jThr ik ic cls) (hstr : (is, text) ∈ jStr)
    (d0 : decode cc pc = .ok (.new ik, 3)) (d3 : decode cc (pc + 3) = .ok (.dup, 1)) (d4 : decode cc (pc + 4) = .ok (.ldc_w is, 3)) (d7 : decode cc (pc + 7) = .ok (.invokespecial ic, 3)) (d10 : decode cc (pc + 10) = .ok (.athrow, 1))
    (hc : 1 ≤ kc) (hs : 6 ≤ ks) (hsum : (st.map fun v => v.category).sum ≤ 8) (hq : ∀ z, Q0 (.inr cls) (z, M.2)) : jW p l e (jRm lvl mc ms) s m args below meth c D ca q0 ad nL (jZ below args s D ca q0 ad mc ms Q0) kc ks pc ls st M := by
  intro H locs lsC cells slots h1 h2 h3 h4 h5
  obtain ⟨hfit, w1, w2, w3, w4, w5⟩ := hw
  have hts := K.2.2.2.2.1
  have hE := K.2.2.2.2.2.2.1
  have h4' : cells + kc ≤ mc := h4
  have h5' : slots + ks ≤ ms := h5
  exact vx_throwSW (A := fun q => q0 ≤ q) (sa := sa is) K.1 K.2.1 K.2.2.2.2.2.2.2.2.2 K.2.2.2.1 hfit jXn_fit (hts _ w1) (hts _ w2) (hE.2.2.2.1 _ hstr)
    (vx_hat (B := OW) (fun w hw => hts _ (w3 w hw)) w4 (fun w hw => jK_ow K hw)) w5 hE.2.1 hE.2.2.1 h3 (h1.1.trans K.2.2.1.symm) d0 d3 d4 d7 d10 (fun x hx => (hX x hx).elim)
    (by show 2 + 3 < 6 + lvl; omega) (by show _ + (13 * (2 + 1) + 43) ≤ 100 + 30 * lvl; omega) (by show cells + 1 ≤ mc; omega) (by show slots + 6 ≤ ms; omega) K.2.2.2.2.2.1
    (fun t hA hz hk => ⟨(t.heap.size, M.2), hq _, jRep_grow h2 hk, ⟨Nat.le_trans h3.1 hz, fun q h6 h7 => by rw [hk q (Nat.lt_of_lt_of_le h6 h3.1)]; exact h3.2.1 q h6 h7⟩⟩) h3.2.2 (by omega) (by omega)
end J
theorem thr_ISE : jThr 59 63 "java/lang/IllegalStateException" := by
  refine ⟨by decide +kernel, wg_of 306 (by decide +kernel) (by decide +kernel), wg_of 52 (by decide +kernel) (by decide +kernel), ?_, ?_, by decide +kernel⟩
  · have h : ∀ w ∈ (vx_atS RX5 63 "java/lang/IllegalStateException" jXn).filter goodWord, w ∈ lw_tbl := by decide +kernel
    exact fun w hw => List.mem_filter.mpr ⟨h w hw, (List.mem_filter.mp hw).2⟩
  · have h : ∀ w ∈ (vx_atS RX5 63 "java/lang/IllegalStateException" jXn).filter (fun w => !goodWord w), w ∈ lw_tbl ∧ jOw w = true := by decide +kernel
    exact fun w hw => List.mem_filter.mpr (h w hw)
theorem thr_IAE : jThr 251 255 "java/lang/IllegalArgumentException" := by
  refine ⟨by decide +kernel, wg_of 237 (by decide +kernel) (by decide +kernel), wg_of 51 (by decide +kernel) (by decide +kernel), ?_, ?_, by decide +kernel⟩
  · have h : ∀ w ∈ (vx_atS RX5 255 "java/lang/IllegalArgumentException" jXn).filter goodWord, w ∈ lw_tbl := by decide +kernel
    exact fun w hw => List.mem_filter.mpr ⟨h w hw, (List.mem_filter.mp hw).2⟩
  · have h : ∀ w ∈ (vx_atS RX5 255 "java/lang/IllegalArgumentException" jXn).filter (fun w => !goodWord w), w ∈ lw_tbl ∧ jOw w = true := by decide +kernel
    exact fun w hw => List.mem_filter.mpr (h w hw)
theorem thr_IOB : jThr 257 261 "java/lang/IndexOutOfBoundsException" := by
  refine ⟨by decide +kernel, wg_of 454 (by decide +kernel) (by decide +kernel), wg_of 56 (by decide +kernel) (by decide +kernel), ?_, ?_, by decide +kernel⟩
  · have h : ∀ w ∈ (vx_atS RX5 261 "java/lang/IndexOutOfBoundsException" jXn).filter goodWord, w ∈ lw_tbl := by decide +kernel
    exact fun w hw => List.mem_filter.mpr ⟨h w hw, (List.mem_filter.mp hw).2⟩
  · have h : ∀ w ∈ (vx_atS RX5 261 "java/lang/IndexOutOfBoundsException" jXn).filter (fun w => !goodWord w), w ∈ lw_tbl ∧ jOw w = true := by decide +kernel
    exact fun w hw => List.mem_filter.mpr (h w hw)
