section J
variable {p : Program} {l : Launch} {e : Env} {R : Room} {s : State} {m : MethodId} {args : Array Value} {below : List Frame} {meth : Method} {c : Code} {D : va_G} {ca : Nat → ClassId} {q0 : Nat} {sa : Nat → Nat} {ad : jAd} {own : String} {cc : ByteArray} {nL : Nat} {ret : Option FieldType} {Q : State → Prop} {kc ks pc : Nat} {ls : List (Option Value)} {st : List Value} {M : jM}
theorem jW_mono {kc' ks' : Nat} (h : jW p l e R s m args below meth c D ca q0 ad nL Q kc' ks' pc ls st M) (h1 : kc' ≤ kc) (h2 : ks' ≤ ks) : jW p l e R s m args below meth c D ca q0 ad nL Q kc ks pc ls st M :=
  fun H locs lsC cells slots a1 a2 a3 a4 a5 => h H locs lsC cells slots a1 a2 a3 (by omega) (by omega)
theorem j_ad {ad' : jAd} {M' : jM} (h : ∀ H, jRep D ca q0 ad M H → jRep D ca q0 ad' M' H) (k : jW p l e R s m args below meth c D ca q0 ad' nL Q kc ks pc ls st M') : jW p l e R s m args below meth c D ca q0 ad nL Q kc ks pc ls st M :=
  fun H locs lsC cells slots a1 a2 a3 a4 a5 => k H locs lsC cells slots a1 (h H a2) a3 a4 a5
theorem j_lcmp (K : jK p l R s m args meth c D ca q0 sa own cc nL ret) {x y : Int64} (hd : decode cc pc = .ok (.lcmp, 1)) (kk : jW p l e R s m args below meth c D ca q0 ad nL Q kc ks (pc + 1) ls (.int (lg_cmp x y) :: st) M) : jW p l e R s m args below meth c D ca q0 ad nL Q kc ks pc ls (.long y :: .long x :: st) M :=
  fun H locs lsC cells slots h1 h2 h3 h4 h5 => W.lcmp K.1 K.2.1 hd (kk H locs lsC cells slots h1 h2 h3 h4 h5)
theorem j_tabOut (K : jK p l R s m args meth c D ca q0 sa own cc nL ret) {dflt lo hi : Int} {offs : Array Int} {len : Nat} {x : Int32} {tgt : Nat} (hd : decode cc pc = .ok (.tableswitch dflt lo hi offs, len)) (h : x.toInt < lo ∨ hi < x.toInt) (ht : (pc : Int) + dflt = (tgt : Int)) (kk : jW p l e R s m args below meth c D ca q0 ad nL Q kc ks tgt ls st M) : jW p l e R s m args below meth c D ca q0 ad nL Q kc ks pc ls (.int x :: st) M :=
  fun H locs lsC cells slots h1 h2 h3 h4 h5 => lv_tableOut K.1 K.2.1 hd h ht (kk H locs lsC cells slots h1 h2 h3 h4 h5)
theorem j_tabIn (K : jK p l R s m args meth c D ca q0 sa own cc nL ret) {dflt lo hi : Int} {offs : Array Int} {len : Nat} {x : Int32} {off : Int} {tgt : Nat} (hd : decode cc pc = .ok (.tableswitch dflt lo hi offs, len)) (h1 : ¬ x.toInt < lo) (h2 : ¬ hi < x.toInt) (ho : offs[(x.toInt - lo).toNat]? = some off) (ht : (pc : Int) + off = (tgt : Int)) (kk : jW p l e R s m args below meth c D ca q0 ad nL Q kc ks tgt ls st M) : jW p l e R s m args below meth c D ca q0 ad nL Q kc ks pc ls (.int x :: st) M :=
  fun H locs lsC cells slots a1 a2 a3 a4 a5 => lv_tableIn K.1 K.2.1 hd h1 h2 ho ht (kk H locs lsC cells slots a1 a2 a3 a4 a5)
/-- the script: L ints xs at the cell b, older than the memory -/
def jX (s : State) (q0 b L : Nat) (xs : Nat → Int32) : Prop := va_X b L xs s s.heap ∧ b < s.heap.size ∧ b < q0 ∧ L ≤ 3072
theorem j_slen (K : jK p l R s m args meth c D ca q0 sa own cc nL ret) {b L : Nat} {xs : Nat → Int32} (hX : jX s q0 b L xs) (hd : decode cc pc = .ok (.arraylength, 1)) (kk : jW p l e R s m args below meth c D ca q0 ad nL Q kc ks (pc + 1) ls (.int (nI L) :: st) M) : jW p l e R s m args below meth c D ca q0 ad nL Q kc ks pc ls (.ref b :: st) M :=
  fun H locs lsC cells slots h1 h2 h3 h4 h5 => va_slen (A := fun q => q0 ≤ q) K.1 K.2.1 hX.1 hX.2.1 (Nat.not_le.mpr hX.2.2.1) h3 hd (kk H locs lsC cells slots h1 h2 h3 h4 h5)
theorem j_sald (K : jK p l R s m args meth c D ca q0 sa own cc nL ret) {b L : Nat} {xs : Nat → Int32} (hX : jX s q0 b L xs) {x : Int32} (j : Nat) (hd : decode cc pc = .ok (.iaload, 1)) (hx : x = nI j) (hj : j < L) (kk : jW p l e R s m args below meth c D ca q0 ad nL Q kc ks (pc + 1) ls (.int (xs j) :: st) M) : jW p l e R s m args below meth c D ca q0 ad nL Q kc ks pc ls (.int x :: .ref b :: st) M := by
  intro H locs lsC cells slots h1 h2 h3 h4 h5
  subst hx
  have hL := hX.2.2.2
  refine va_sld (A := fun q => q0 ≤ q) K.1 K.2.1 hX.1 hX.2.1 (Nat.not_le.mpr hX.2.2.1) h3 (vp_in_nI hj (by omega)) hd ?_
  rw [nI_clamp (by omega)]
  exact kk H locs lsC cells slots h1 h2 h3 h4 h5
end J
theorem lg_cmp_self (x : Int64) : lg_cmp x x = 0 := by unfold lg_cmp; simp
/-- what the live objects of a steady memory refer to is live -/
theorem rf_live {n k i j k2 i2 : Nat} (h : LV n k i = true) (hr : RF n k i j = some (k2, i2)) : LV n k2 i2 = true := by
  unfold RF at hr
  split at hr
  · split at hr <;> first | (cases hr; rfl) | (cases hr; exact decide_eq_true (Or.inr rfl)) | cases hr
  · split at hr
    · rename_i q; cases hr; show decide (j < n) = true; exact decide_eq_true q
    · cases hr
  · split at hr
    · cases hr; exact h
    · cases hr
  · split at hr <;> first | (cases hr; exact h) | cases hr
  · split at hr <;> first | (cases hr; exact h) | cases hr
  · split at hr
    · cases hr; exact h
    · cases hr; exact h
    · cases hr; exact h
    · cases hr; rfl
    · cases hr
  · split at hr
    · cases hr; show decide (i < n ∨ i = 6) = true; have : i < n := of_decide_eq_true h; exact decide_eq_true (Or.inl this)
    · cases hr; exact h
    · cases hr; exact h
    · cases hr
  · split at hr <;> first | (cases hr; rfl) | cases hr
  · cases hr
