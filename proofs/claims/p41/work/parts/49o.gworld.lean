-- walks by hand: objects, rows of whole numbers and of longs
def xg (I J : List (Nat × Nat)) (O : List Nat) (ad : Nat → Nat) (cI : Nat → ClassId) (V : Nat → Nat → Int32) (L : Nat → Nat → Int64) (ob : Nat → Nat × List Value) (cw : va_W) : Prop := (∀ q ∈ I, cw[q.1]? = some (ad q.1, .inl (cI q.1, q.2, .inl (V q.1)))) ∧ (∀ q ∈ J, cw[q.1]? = some (ad q.1, .inl (cI q.1, q.2, .inr (.inl (L q.1))))) ∧ (∀ o ∈ O, cw[o]? = some (ad o, .inr (ob o)))
theorem xg.hI {I J : List (Nat × Nat)} {O : List Nat} {ad : Nat → Nat} {cI : Nat → ClassId} {V : Nat → Nat → Int32} {L : Nat → Nat → Int64} {ob : Nat → Nat × List Value} {cw : va_W} (h : xg I J O ad cI V L ob cw) : ∀ q ∈ I, cw[q.1]? = some (ad q.1, .inl (cI q.1, q.2, .inl (V q.1))) := h.1
theorem xg.hJ {I J : List (Nat × Nat)} {O : List Nat} {ad : Nat → Nat} {cI : Nat → ClassId} {V : Nat → Nat → Int32} {L : Nat → Nat → Int64} {ob : Nat → Nat × List Value} {cw : va_W} (h : xg I J O ad cI V L ob cw) : ∀ q ∈ J, cw[q.1]? = some (ad q.1, .inl (cI q.1, q.2, .inr (.inl (L q.1)))) := h.2.1
theorem xg.hO {I J : List (Nat × Nat)} {O : List Nat} {ad : Nat → Nat} {cI : Nat → ClassId} {V : Nat → Nat → Int32} {L : Nat → Nat → Int64} {ob : Nat → Nat × List Value} {cw : va_W} (h : xg I J O ad cI V L ob cw) : ∀ o ∈ O, cw[o]? = some (ad o, .inr (ob o)) := h.2.2
def xgT (I J : List (Nat × Nat)) (cI : Nat → ClassId) (tys : List (ClassId × FieldType)) : Prop := (∀ q ∈ I, ∃ t : Nat, tys[t]? = some (cI q.1, .int)) ∧ ∀ q ∈ J, ∃ t : Nat, tys[t]? = some (cI q.1, .long)
def xupL (L : Nat → Nat → Int64) (r i : Nat) (x : Int64) : Nat → Nat → Int64 := fun q => if q = r then vp_updL (L r) i x else L q
theorem xupL_s (L : Nat → Nat → Int64) (r i : Nat) (x : Int64) : xupL L r i x r = vp_updL (L r) i x := if_pos rfl
theorem xupL_n (L : Nat → Nat → Int64) {r q : Nat} (i : Nat) (x : Int64) (h : q ≠ r) : xupL L r i x q = L q := if_neg h
def xob (ob : Nat → Nat × List Value) (o k : Nat) (v : Value) : Nat → Nat × List Value := fun q => if q = o then ((ob o).1, (ob o).2.set k v) else ob q
section XGC
variable {I J : List (Nat × Nat)} {O : List Nat} {ad : Nat → Nat} {cI : Nat → ClassId} {cw : va_W} {V : Nat → Nat → Int32} {L : Nat → Nat → Int64} {ob : Nat → Nat × List Value}
theorem xg.row (h : xg I J O ad cI V L ob cw) {r n i : Nat} {x : Int32} (hr : (r, n) ∈ I) : xg I J O ad cI (xup V r i x) L ob (cw.set r (ad r, .inl (cI r, n, .inl (upd (V r) i x)))) := by
  have h0 : cw[r]? = some (ad r, .inl (cI r, n, .inl (V r))) := h.hI _ hr
  have hl := (List.getElem?_eq_some_iff.mp h0).1
  refine ⟨fun q hq => ?_, fun q hq => ?_, fun o ho => ?_⟩
  · by_cases e : q.1 = r
    · have h1 := h.hI q hq
      rw [e, h0] at h1
      have : n = q.2 := by cases h1; rfl
      rw [e, List.getElem?_set_self hl, xup_s, this]
    · rw [List.getElem?_set_ne (fun z => e z.symm), xup_n V i x e]
      exact h.hI q hq
  · have e : r ≠ q.1 := fun z => by
      have h1 := h.hJ q hq
      rw [← z, h0] at h1
      cases h1
    rw [List.getElem?_set_ne e]
    exact h.hJ q hq
  · have e : r ≠ o := fun z => by
      have h1 := h.hO o ho
      rw [← z, h0] at h1
      cases h1
    rw [List.getElem?_set_ne e]
    exact h.hO o ho
theorem xg.lrow (h : xg I J O ad cI V L ob cw) {r n i : Nat} {x : Int64} (hr : (r, n) ∈ J) : xg I J O ad cI V (xupL L r i x) ob (cw.set r (ad r, .inl (cI r, n, .inr (.inl (vp_updL (L r) i x))))) := by
  have h0 : cw[r]? = some (ad r, .inl (cI r, n, .inr (.inl (L r)))) := h.hJ _ hr
  have hl := (List.getElem?_eq_some_iff.mp h0).1
  refine ⟨fun q hq => ?_, fun q hq => ?_, fun o ho => ?_⟩
  · have e : r ≠ q.1 := fun z => by
      have h1 := h.hI q hq
      rw [← z, h0] at h1
      cases h1
    rw [List.getElem?_set_ne e]
    exact h.hI q hq
  · by_cases e : q.1 = r
    · have h1 := h.hJ q hq
      rw [e, h0] at h1
      have : n = q.2 := by cases h1; rfl
      rw [e, List.getElem?_set_self hl, xupL_s, this]
    · rw [List.getElem?_set_ne (fun z => e z.symm), xupL_n L i x e]
      exact h.hJ q hq
  · have e : r ≠ o := fun z => by
      have h1 := h.hO o ho
      rw [← z, h0] at h1
      cases h1
    rw [List.getElem?_set_ne e]
    exact h.hO o ho
theorem xg.fld (h : xg I J O ad cI V L ob cw) {o k : Nat} {v : Value} (ho : o ∈ O) : xg I J O ad cI V L (xob ob o k v) (cw.set o (ad o, .inr ((ob o).1, (ob o).2.set k v))) := by
  have h0 := h.hO o ho
  have hl := (List.getElem?_eq_some_iff.mp h0).1
  refine ⟨fun q hq => ?_, fun q hq => ?_, fun q hq => ?_⟩
  · have e : o ≠ q.1 := fun z => by
      have h1 := h.hI q hq
      rw [← z, h0] at h1
      cases h1
    rw [List.getElem?_set_ne e]
    exact h.hI q hq
  · have e : o ≠ q.1 := fun z => by
      have h1 := h.hJ q hq
      rw [← z, h0] at h1
      cases h1
    rw [List.getElem?_set_ne e]
    exact h.hJ q hq
  · unfold xob
    by_cases e : q = o
    · subst e
      rw [List.getElem?_set_self hl, if_pos rfl]
    · rw [List.getElem?_set_ne (fun z => e z.symm), if_neg e]
      exact h.hO q hq
end XGC
theorem dni_inN {k n : Nat} (h : k < n) (hn : n < 2147483648) : vp_in (nI k) n := by
  have h1 := dni_cl (k := k) (by omega)
  have h2 := dni_int (k := k) (by omega)
  rintro (z | z)
  · have := Int32.lt_iff_toInt_lt.mp z
    have e0 : (0 : Int32).toInt = 0 := by decide
    omega
  · omega
section XGW
variable {l : Launch} {D : va_G} {b : Nat → Nat} {tb : yTb}
variable {p : Program} {e : Env} {R : Room} {s : State} {m : MethodId} {args : Array Value} {below : List Frame} {meth : Method} {c : Code} {A : Nat → Prop} {ce sl : Nat} {mr : yMR} {Q : State → Prop}
variable {H : Heap} {locs : List Loc} {cw : va_W} {tys : List (ClassId × FieldType)} {ls : Array Slot} {rest : List Value} {pc : Nat}
variable {I J : List (Nat × Nat)} {O : List Nat} {ad : Nat → Nat} {cI : Nat → ClassId} {V : Nat → Nat → Int32} {L : Nat → Nat → Int64} {ob : Nat → Nat × List Value}
theorem ggo (hF : y_Fix ztb znw b zcls tb p R s m args meth c A mr) (hs : xs D s A H locs cw tys) (hc : xg I J O ad cI V L ob cw) (o : Nat) (ho : o ∈ O) {C : String} {T : u_T} {N : Nat} (hz : zcls[(ob o).1]? = some (C, T, N)) (k : Nat) (hk : k < N) {index n : Nat} (hw : z_w ztb n (.fieldLink (y_y mr).cls index (T k).1 (T k).2.1 (T k).2.2.1) = true) {v : Value} (hv : (ob o).2[k]? = some v) (hd : y_dcd (y_cc mr) pc (.getfield index) 3 = true) (kk : W p l e R s m args below meth c H locs ce sl Q (F0 m (pc + 3) ls (v :: rest))) : W p l e R s m args below meth c H locs ce sl Q (F0 m pc ls (.ref (ad o) :: rest)) := xget hF hs (hc.hO o ho) hz k hk hw hv hd kk
theorem gpo (hF : y_Fix ztb znw b zcls tb p R s m args meth c A mr) (hs : xs D s A H locs cw tys) (hc : xg I J O ad cI V L ob cw) (o : Nat) (ho : o ∈ O) {C : String} {T : u_T} {N : Nat} (hz : zcls[(ob o).1]? = some (C, T, N)) (k : Nat) (hk : k < N) {index n : Nat} (hw : z_w ztb n (.fieldLink (y_y mr).cls index (T k).1 (T k).2.1 (T k).2.2.1) = true) (hfin : (T k).2.2.2 = false) {ty : FieldType} (hty : parseFieldDescriptor (T k).2.2.1 = some ty) {v : Value} (hn : narrow ty v = v) (hfit : fits ty v = true) (hl : k < (ob o).2.length) (hd : y_dcd (y_cc mr) pc (.putfield index) 3 = true) (kk : ∀ (H1 : Heap) (locs1 : List Loc) (cw1 : va_W), xs D s A H1 locs1 cw1 tys → xg I J O ad cI V L (xob ob o k v) cw1 → W p l e R s m args below meth c H1 locs1 ce sl Q (F0 m (pc + 3) ls rest)) : W p l e R s m args below meth c H locs ce sl Q (F0 m pc ls (v :: .ref (ad o) :: rest)) := by
  obtain ⟨hx, hb, hml, hown, hts, hR, hN, hA0, hok⟩ := id hF
  obtain ⟨f1, f2, f3, f4, ty', dv, f5, f6, f7, f8, f9⟩ := zCF (ob o).1 _ hz
  exact va_put (D := D) (ci := (ob o).1) (C := C) (T := T) (N := N) hx hb hts f1 ty' f7 f2 hown hs.1 hs.2.1 hs.2.2.1 hs.2.2.2 o (hc.hO o ho) hz k hk (hts _ (z_w_ok hw)) (fun _ h9 => h9) hfin hty hn hfit hl (y_dcd_ok hd) (fun H1 locs1 hP1 hD1 hS1 => kk H1 locs1 _ ⟨hs.1, hP1, hD1, hS1⟩ (hc.fld ho))
theorem gald (hF : y_Fix ztb znw b zcls tb p R s m args meth c A mr) (hs : xs D s A H locs cw tys) (ht : xgT I J cI tys) (hc : xg I J O ad cI V L ob cw) (r n : Nat) (hr : (r, n) ∈ I) (hn : n < 2147483648) {k : Nat} (hk : k < n) (hd : y_dcd (y_cc mr) pc .iaload 1 = true) (kk : W p l e R s m args below meth c H locs ce sl Q (F0 m (pc + 1) ls (.int (V r k) :: rest))) : W p l e R s m args below meth c H locs ce sl Q (F0 m pc ls (.int (nI k) :: .ref (ad r) :: rest)) := by
  obtain ⟨hx, hb, hml, hown, hts, hR, hN, hA0, hok⟩ := id hF
  obtain ⟨t0, ht0⟩ := ht.1 _ hr
  exact va_iald hx hb hs.1 hs.2.1 r t0 (hc.hI _ hr) ht0 (dni_inN hk hn) (y_dcd_ok hd) (by rw [dni_cl (by omega)]; exact kk)
theorem gast (hF : y_Fix ztb znw b zcls tb p R s m args meth c A mr) (hs : xs D s A H locs cw tys) (ht : xgT I J cI tys) (hc : xg I J O ad cI V L ob cw) (r n : Nat) (hr : (r, n) ∈ I) (hn : n < 2147483648) {k : Nat} {x : Int32} (hk : k < n) (hd : y_dcd (y_cc mr) pc .iastore 1 = true) (kk : ∀ (H1 : Heap) (locs1 : List Loc) (cw1 : va_W), xs D s A H1 locs1 cw1 tys → xg I J O ad cI (xup V r k x) L ob cw1 → W p l e R s m args below meth c H1 locs1 ce sl Q (F0 m (pc + 1) ls rest)) : W p l e R s m args below meth c H locs ce sl Q (F0 m pc ls (.int x :: .int (nI k) :: .ref (ad r) :: rest)) := by
  obtain ⟨hx, hb, hml, hown, hts, hR, hN, hA0, hok⟩ := id hF
  obtain ⟨t0, ht0⟩ := ht.1 _ hr
  refine va_iast hx hb hs.1 hs.2.1 hs.2.2.1 hs.2.2.2 r t0 (hc.hI _ hr) ht0 (dni_inN hk hn) (y_dcd_ok hd) (fun H1 locs1 hP1 hD1 hS1 => ?_)
  rw [dni_cl (by omega)] at hP1 hD1
  exact kk H1 locs1 _ ⟨hs.1, hP1, hD1, hS1⟩ (hc.row hr)
theorem glald (hF : y_Fix ztb znw b zcls tb p R s m args meth c A mr) (hs : xs D s A H locs cw tys) (ht : xgT I J cI tys) (hc : xg I J O ad cI V L ob cw) (r n : Nat) (hr : (r, n) ∈ J) (hn : n < 2147483648) {k : Nat} (hk : k < n) (hd : y_dcd (y_cc mr) pc .laload 1 = true) (kk : W p l e R s m args below meth c H locs ce sl Q (F0 m (pc + 1) ls (.long (L r k) :: rest))) : W p l e R s m args below meth c H locs ce sl Q (F0 m pc ls (.int (nI k) :: .ref (ad r) :: rest)) := by
  obtain ⟨hx, hb, hml, hown, hts, hR, hN, hA0, hok⟩ := id hF
  obtain ⟨t0, ht0⟩ := ht.2 _ hr
  exact va_lald hx hb hs.1 hs.2.1 r t0 (hc.hJ _ hr) ht0 (dni_inN hk hn) (y_dcd_ok hd) (by rw [dni_cl (by omega)]; exact kk)
theorem glast (hF : y_Fix ztb znw b zcls tb p R s m args meth c A mr) (hs : xs D s A H locs cw tys) (ht : xgT I J cI tys) (hc : xg I J O ad cI V L ob cw) (r n : Nat) (hr : (r, n) ∈ J) (hn : n < 2147483648) {k : Nat} {x : Int64} (hk : k < n) (hd : y_dcd (y_cc mr) pc .lastore 1 = true) (kk : ∀ (H1 : Heap) (locs1 : List Loc) (cw1 : va_W), xs D s A H1 locs1 cw1 tys → xg I J O ad cI V (xupL L r k x) ob cw1 → W p l e R s m args below meth c H1 locs1 ce sl Q (F0 m (pc + 1) ls rest)) : W p l e R s m args below meth c H locs ce sl Q (F0 m pc ls (.long x :: .int (nI k) :: .ref (ad r) :: rest)) := by
  obtain ⟨hx, hb, hml, hown, hts, hR, hN, hA0, hok⟩ := id hF
  obtain ⟨t0, ht0⟩ := ht.2 _ hr
  refine va_last hx hb hs.1 hs.2.1 hs.2.2.1 hs.2.2.2 r t0 (hc.hJ _ hr) ht0 (dni_inN hk hn) (y_dcd_ok hd) (fun H1 locs1 hP1 hD1 hS1 => ?_)
  rw [dni_cl (by omega)] at hP1 hD1
  exact kk H1 locs1 _ ⟨hs.1, hP1, hD1, hS1⟩ (hc.lrow hr)
theorem gabs (hF : y_Fix ztb znw b zcls tb p R s m args meth c A mr) (hls : ls.size = y_mL mr) {index n : Nat} (hw : z_w ztb n (.methodLink (y_y mr).cls index Lib.Math.abs.name) = true) (hfr : 1 ≤ R.frames) (hlo : (rest.map fun v => v.category).sum + 13 ≤ R.locals) (hce : ce ≤ R.cells) (hsl : sl ≤ R.slots) {x : Int32} (hd : y_dcd (y_cc mr) pc (.invokestatic index) 3 = true) (kk : W p l e R s m args below meth c H locs ce sl Q (F0 m (pc + 3) ls (.int (if 0 ≤ x then x else 0 - x) :: rest))) : W p l e R s m args below meth c H locs ce sl Q (F0 m pc ls (.int x :: rest)) := by
  obtain ⟨hx, hb, hml, hown, hts, hR, hN, hA0, hok⟩ := id hF
  exact va_mabs hx hb (hml.trans hls.symm) hown (hts _ (z_w_ok hw)) (hts _ yN_abs) (hts _ yN_i) (hts _ yN_cabs) hfr hlo hce hsl (y_dcd_ok hd) kk
end XGW
-- longs
def nL (n : Nat) : Int64 := Int64.ofNat n
theorem nL_nat {n : Nat} (h : n < 2 ^ 63) : (nL n).toBitVec.toNat = n := by
  show (BitVec.ofNat 64 n).toNat = n
  rw [BitVec.toNat_ofNat]
  exact Nat.mod_eq_of_lt (by omega)
theorem nL_int {n : Nat} (h : n < 2 ^ 63) : (nL n).toInt = n := by
  show (nL n).toBitVec.toInt = n
  rw [BitVec.toInt_eq_toNat_of_lt (by rw [nL_nat h]; omega), nL_nat h]
theorem nL_inj {i j : Nat} (h1 : i < 2 ^ 63) (h2 : j < 2 ^ 63) (h : nL i = nL j) : i = j := by
  have := congrArg Int64.toInt h
  rw [nL_int h1, nL_int h2] at this
  omega
