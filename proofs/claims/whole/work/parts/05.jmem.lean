/-- an entry of own's pool is the field j of the class ci: by its own link, or as a nest mate's -/
def jFld (own : String) (idx ci j : Nat) : Prop := ((jT ci) j).1 = jC ci ∧ j < jN ci ∧ ci < 7 ∧ (Cond.fieldLink own idx (jC ci) ((jT ci) j).2.1 ((jT ci) j).2.2.1 ∈ WG ∨ ∃ host : String, Cond.fieldLinkNest own idx (jC ci) ((jT ci) j).2.1 ((jT ci) j).2.2.1 host ∈ OW)
def jFldO (own : String) (idx ci j : Nat) : Prop := ((jT ci) j).1 = jC ci ∧ j < jN ci ∧ ci < 7 ∧ Cond.fieldLink own idx (jC ci) ((jT ci) j).2.1 ((jT ci) j).2.2.1 ∈ WG
theorem jFldO.any {own : String} {idx ci j : Nat} (h : jFldO own idx ci j) : jFld own idx ci j := ⟨h.1, h.2.1, h.2.2.1, Or.inl h.2.2.2⟩
theorem jFld_of {own : String} {idx ci j : Nat} (h0 : ((jT ci) j).1 = jC ci) (h1 : j < jN ci) (h2 : ci < 7) (h : Cond.fieldLink own idx (jC ci) ((jT ci) j).2.1 ((jT ci) j).2.2.1 ∈ WG) : jFld own idx ci j := ⟨h0, h1, h2, Or.inl h⟩
theorem jFld_nest {own : String} {idx ci j : Nat} (host : String) (h0 : ((jT ci) j).1 = jC ci) (h1 : j < jN ci) (h2 : ci < 7) (h : Cond.fieldLinkNest own idx (jC ci) ((jT ci) j).2.1 ((jT ci) j).2.2.1 host ∈ OW) : jFld own idx ci j := ⟨h0, h1, h2, Or.inr ⟨host, h⟩⟩
/-! words of the classes, by their places in the tables -/
theorem inX0 : ∀ w ∈ u_ws RX0 TX0 5, w ∈ WG := fun w h => List.mem_filter.mpr ⟨(goodIn_r (big := lw_tbl) (u_ws RX0 TX0 5) [344, 346, 348, 350, 352] (by decide +kernel) (by decide +kernel) w h).1, by
  have h1 : (u_ws RX0 TX0 5).all goodWord = true := by decide +kernel
  exact List.all_eq_true.mp h1 w h⟩
theorem inX1 : ∀ w ∈ u_ws RX1 TX1 7, w ∈ WG := fun w h => List.mem_filter.mpr ⟨(goodIn_r (big := lw_tbl) (u_ws RX1 TX1 7) [392, 394, 396, 398, 400, 402, 404] (by decide +kernel) (by decide +kernel) w h).1, by
  have h1 : (u_ws RX1 TX1 7).all goodWord = true := by decide +kernel
  exact List.all_eq_true.mp h1 w h⟩
theorem inX2 : ∀ w ∈ u_ws RX2 TX2 5, w ∈ WG := fun w h => List.mem_filter.mpr ⟨(goodIn_r (big := lw_tbl) (u_ws RX2 TX2 5) [370, 372, 374, 376, 378] (by decide +kernel) (by decide +kernel) w h).1, by
  have h1 : (u_ws RX2 TX2 5).all goodWord = true := by decide +kernel
  exact List.all_eq_true.mp h1 w h⟩
theorem inX3 : ∀ w ∈ u_ws RX3 TX3 4, w ∈ WG := fun w h => List.mem_filter.mpr ⟨(goodIn_r (big := lw_tbl) (u_ws RX3 TX3 4) [104, 106, 108, 110] (by decide +kernel) (by decide +kernel) w h).1, by
  have h1 : (u_ws RX3 TX3 4).all goodWord = true := by decide +kernel
  exact List.all_eq_true.mp h1 w h⟩
theorem inX4 : ∀ w ∈ u_ws RX4 TX4 3, w ∈ WG := fun w h => List.mem_filter.mpr ⟨(goodIn_r (big := lw_tbl) (u_ws RX4 TX4 3) [81, 83, 85] (by decide +kernel) (by decide +kernel) w h).1, by
  have h1 : (u_ws RX4 TX4 3).all goodWord = true := by decide +kernel
  exact List.all_eq_true.mp h1 w h⟩
theorem inX5 : ∀ w ∈ u_ws RX5 TX5 11, w ∈ WG := fun w h => List.mem_filter.mpr ⟨(goodIn_r (big := lw_tbl) (u_ws RX5 TX5 11) [125, 127, 129, 131, 133, 135, 137, 139, 141, 143, 145] (by decide +kernel) (by decide +kernel) w h).1, by
  have h1 : (u_ws RX5 TX5 11).all goodWord = true := by decide +kernel
  exact List.all_eq_true.mp h1 w h⟩
theorem inX6 : ∀ w ∈ u_ws RX6 TX6 32, w ∈ WG := fun w h => List.mem_filter.mpr ⟨(goodIn_r (big := lw_tbl) (u_ws RX6 TX6 32) [876, 878, 880, 882, 884, 886, 888, 890, 892, 894, 896, 898, 900, 902, 904, 906, 908, 910, 912, 914, 916, 918, 920, 922, 924, 926, 928, 930, 932, 934, 936, 938] (by decide +kernel) (by decide +kernel) w h).1, by
  have h1 : (u_ws RX6 TX6 32).all goodWord = true := by decide +kernel
  exact List.all_eq_true.mp h1 w h⟩
theorem jws_in : ∀ ci, ci < 7 → ∀ w ∈ u_ws (jC ci) (jT ci) (jN ci), w ∈ WG := by
  intro ci h
  match ci, h with
  | 0, _ => exact inX0
  | 1, _ => exact inX1
  | 2, _ => exact inX2
  | 3, _ => exact inX3
  | 4, _ => exact inX4
  | 5, _ => exact inX5
  | 6, _ => exact inX6
  | n + 7, h => exact absurd h (by omega)
theorem jty_ok : ∀ ci, ci < 7 → ∀ k, k < jN ci → parseFieldDescriptor ((jT ci) k).2.2.1 = some (jTy ci k) := by
  intro ci h
  match ci, h with
  | 0, _ => exact tyX0_ok
  | 1, _ => exact tyX1_ok
  | 2, _ => exact tyX2_ok
  | 3, _ => exact tyX3_ok
  | 4, _ => exact tyX4_ok
  | 5, _ => exact tyX5_ok
  | 6, _ => exact tyX6_ok
  | n + 7, h => exact absurd h (by omega)
theorem jnm : ∀ ci, ci < 7 → ∀ a, a < jN ci → ∀ b, b < jN ci → a ≠ b → ((jT ci) a).2.1 ≠ ((jT ci) b).2.1 := by
  intro ci h
  match ci, h with
  | 0, _ => exact nmX0
  | 1, _ => exact nmX1
  | 2, _ => exact nmX2
  | 3, _ => exact nmX3
  | 4, _ => exact nmX4
  | 5, _ => exact nmX5
  | 6, _ => exact nmX6
  | n + 7, h => exact absurd h (by omega)
theorem jfs_get {ad : jAd} {M : jM} {ci k i j : Nat} (hj : j < jN ci) : ((List.range (jN ci)).map (fun j => jfv ad M ci k i j))[j]? = some (jfv ad M ci k i j) := by
  simp [hj]
theorem jfs_V {ad : jAd} {M : jM} {ci k i j : Nat} (hj : j < jN ci) : vp_V ((List.range (jN ci)).map (fun j => jfv ad M ci k i j)) j = jfv ad M ci k i j := by
  unfold vp_V
  rw [List.getD_eq_getElem?_getD, jfs_get hj]; rfl
section J
variable {p : Program} {l : Launch} {e : Env} {R : Room} {s : State} {m : MethodId} {args : Array Value} {below : List Frame} {meth : Method} {c : Code} {D : va_G} {ca : Nat → ClassId} {q0 : Nat} {sa : Nat → Nat} {ad : jAd} {own : String} {cc : ByteArray} {nL : Nat} {ret : Option FieldType} {Q : State → Prop} {kc ks pc : Nat} {ls : List (Option Value)} {st : List Value} {M : jM}
theorem jK_K (K : jK p l R s m args meth c D ca q0 sa own cc nL ret) : va_K D vwCl (jTys ca) s := K.2.2.2.2.2.2.1.1
theorem jK_ow (K : jK p l R s m args meth c D ca q0 sa own cc nL ret) {w : Cond} (h : w ∈ OW) : w.before args s = true := va_Nw.use (ow_tabs w h) (K.2.2.2.2.2.2.1.2.2.2.2.1 w h)
theorem j_get (K : jK p l R s m args meth c D ca q0 sa own cc nL ret) {k i ci j idx : Nat} {v : Value} (hd : decode cc pc = .ok (.getfield idx, 3)) (hf : jFld own idx ci j) (hs : shp k = (0, ci)) (hlv : M.2.1 k i = true) (hv : jfv ad M ci k i j = v)
    (kk : jW p l e R s m args below meth c D ca q0 ad nL Q kc ks (pc + 3) ls (v :: st) M) : jW p l e R s m args below meth c D ca q0 ad nL Q kc ks pc ls (.ref (ad k i) :: st) M := by
  intro H locs lsC cells slots h1 h2 h3 h4 h5
  obtain ⟨f0, hj, h7, hf⟩ := hf
  have hP := jRep_P h2 hlv
  rw [jcell_obj hs] at hP
  have hg := (jfs_get (ad := ad) (M := M) (ci := ci) (k := k) (i := i) hj)
  rw [hv] at hg
  have hk := kk H locs lsC cells slots h1 h2 h3 h4 h5
  rcases hf with hf | ⟨host, hf⟩
  · exact va_get K.1 K.2.1 K.2.2.2.2.1 (jws_in ci h7) K.2.2.2.1 (jK_K K) hP 0 rfl (jcls_get ci h7) j hj (K.2.2.2.2.1 _ hf) (fun x hx => by rw [f0] at hx; exact hx) hg hd hk
  · exact va_getN K.1 K.2.1 K.2.2.2.2.1 (jws_in ci h7) K.2.2.2.1 (jK_K K) hP 0 rfl (jcls_get ci h7) j hj (jK_ow K hf) (fun x hx => by rw [f0] at hx; exact hx) hg hd hk
/-- an int field -/
theorem j_gi (K : jK p l R s m args meth c D ca q0 sa own cc nL ret) {k i ci j idx : Nat} (hd : decode cc pc = .ok (.getfield idx, 3)) (hf : jFld own idx ci j) (hs : shp k = (0, ci)) (hlv : M.2.1 k i = true) (hv : jIr ci j = false)
    (kk : jW p l e R s m args below meth c D ca q0 ad nL Q kc ks (pc + 3) ls (.int (M.2.2.1 k i j) :: st) M) : jW p l e R s m args below meth c D ca q0 ad nL Q kc ks pc ls (.ref (ad k i) :: st) M :=
  j_get K hd hf hs hlv (by unfold jfv; rw [if_neg (by rw [hv]; decide)]) kk
/-- a field that is a reference -/
theorem j_gr (K : jK p l R s m args meth c D ca q0 sa own cc nL ret) {k i ci j idx : Nat} (k' i' : Nat) (hd : decode cc pc = .ok (.getfield idx, 3)) (hf : jFld own idx ci j) (hs : shp k = (0, ci)) (hlv : M.2.1 k i = true) (hv : jIr ci j = true) (hr : M.2.2.2 k i j = some (k', i'))
    (kk : jW p l e R s m args below meth c D ca q0 ad nL Q kc ks (pc + 3) ls (.ref (ad k' i') :: st) M) : jW p l e R s m args below meth c D ca q0 ad nL Q kc ks pc ls (.ref (ad k i) :: st) M :=
  j_get K hd hf hs hlv (by unfold jfv; rw [if_pos hv, hr]; rfl) kk
theorem up_other {V : jV} {k i j : Nat} {x : Int32} {k' i' : Nat} (h : ¬ (k' = k ∧ i' = i)) (j' : Nat) : up V k i j x k' i' j' = V k' i' j' := by
  unfold up
  rw [if_neg fun q => h ⟨q.1, q.2.1⟩]
theorem upR_other {V : jR} {k i j : Nat} {x : Option (Nat × Nat)} {k' i' : Nat} (h : ¬ (k' = k ∧ i' = i)) (j' : Nat) : upR V k i j x k' i' j' = V k' i' j' := by
  unfold upR
  rw [if_neg fun q => h ⟨q.1, q.2.1⟩]
/-- a store into a field, over the machine: the new cell, and all others as they were -/
theorem j_putW (K : jK p l R s m args meth c D ca q0 sa own cc nL ret) {H : Heap} {locs : List Loc} {lsC : Array Slot} {cells slots a idx ci j : Nat} {fs : List Value} {v : Value} (hd : decode cc pc = .ok (.putfield idx, 3)) (hf : jFldO own idx ci j) (hat : va_at D vwCl (a, .inr (ci, fs)) H) (hS : va_S (fun q => q0 ≤ q) s.heap H locs) (ha : q0 ≤ a)
    (hfin : ((jT ci) j).2.2.2 = false ∨ (meth.name = "<init>" ∧ jC ci = own)) (hn : narrow (jTy ci j) v = v) (hfit : fits (jTy ci j) v = true) (hl : j < fs.length)
    (kk : ∀ (H1 : Heap) (locs1 : List Loc), H1.size = H.size → (∀ q : Nat, q ≠ a → H1[q]? = H[q]?) → va_at D vwCl (a, .inr (ci, fs.set j v)) H1 → va_S (fun q => q0 ≤ q) s.heap H1 locs1 → W p l e R s m args below meth c H1 locs1 cells slots Q (F0 m (pc + 3) lsC st)) : W p l e R s m args below meth c H locs cells slots Q (F0 m pc lsC (v :: .ref a :: st)) := by
  obtain ⟨f0, hj, h7, hf⟩ := hf
  have hts := K.2.2.2.2.1
  have hin := jws_in ci h7
  have hK := jK_K K
  have hc := jcls_get ci h7
  have hap := va_apart (own := own) hts hin (jTy ci) (jty_ok ci h7) (jnm ci h7) hK hc
  obtain ⟨r, e1, cell, q1, q2, q3, q4⟩ := hat
  have hr : r = (jC ci, jT ci, jN ci) := Option.some.inj (e1.symm.trans hc)
  subst hr
  obtain ⟨hSl, hfc, kC, hkC, hkind⟩ := hK.1 ci _ hc
  obtain ⟨cf, kf, fi, f, hi, hsl⟩ := hSl j hj
  have hlay := hts _ (hin _ (u_in_lay hj))
  unfold u_lay at hlay
  have hst := (u_facts hfc hkC (u_lays hts hin hj) hi).1
  have hsame : s.fieldFound? (jC ci) ((jT ci) j).2.1 ((jT ci) j).2.2.1 = some (cf, kf, fi, f) := by rw [← f0]; exact hi
  have hdd := jty_ok ci h7 j hj
  have done : ∀ H' : Heap, H'[a]? = some (cell.setSlot f.slot v) → H'.size = H.size → (∀ q : Nat, q ≠ a → H'[q]? = H[q]?) → W p l e R s m args below meth c H' (locs ++ [⟨a, f.slot⟩]) cells slots Q (F0 m (pc + 3) lsC st) := by
    intro H' e1 e2 e3
    refine kk H' _ e2 e3 ?_ (hS.put e2 e3 ha)
    rw [hsl] at e1
    exact ⟨_, hc, t_OB.to (V := updV (vp_V fs) j v) ⟨_, e1, q2, q3, t_set q4 hap hj v⟩ (fun i _ => vp_updV_set hl v i)⟩
  by_cases hb : ((jT ci) j).2.2.2 = true
  · have hh : meth.name = "<init>" ∧ jC ci = own := by
      rcases hfin with h | h
      · rw [h] at hb; cases hb
      · exact h
    rw [if_pos hb] at hlay
    have hcf : m.cls = cf := by
      obtain ⟨_, _, c', _, _, _, -, -, hf', -, -, -, hown2, -⟩ := Cond.laysFinal_spec hlay
      have e1 : c' = cf := by have := hi.symm.trans hf'; simp at this; exact this.1.symm
      have hown3 : s.vm.findClass own = some c' := by rw [← hh.2, ← f0]; exact hown2
      rw [← e1]; exact Option.some.inj (K.2.2.2.1.symm.trans hown3)
    have h6 := u_fits hfc hkC hkind (Or.inr hlay) hi hdd hn hfit
    exact W.putFinK K.1 K.2.1 K.2.2.2.1 (hts _ hf) hsame hst hcf hh.1 (by rw [q2]; exact h6) q1 q3 (by rw [hsl]; exact k2_hasslot (q4 j hj)) rfl rfl hd done
  · rw [if_neg hb] at hlay
    have h6 := u_store hfc hkC hkind hlay hi hdd hn hfit
    exact W.putK K.1 K.2.1 (f := f) ⟨K.2.2.2.1, hts _ hf, ⟨_, _, _, hsame⟩, hst⟩ (by rw [q2]; exact h6) q1 q3 (by rw [hsl]; exact k2_hasslot (q4 j hj)) rfl rfl hd done
end J
