-- walks by hand: one object with its rows of seven whole numbers
/-- the object o of class ci with fields vs, the rows r0 to r1; all else as it was in cw0 -/
def xc (o ci r0 r1 : Nat) (ad : Nat → Nat) (cI : Nat → ClassId) (cw0 : va_W) (V : Nat → Nat → Int32) (vs : List Value) (cw : va_W) : Prop := (cw[o]? = some (ad o, .inr (ci, vs))) ∧ (∀ r, r0 ≤ r → r < r1 → cw[r]? = some (ad r, .inl (cI r, 7, .inl (V r)))) ∧ (cw.length = cw0.length ∧ ∀ k : Nat, k ≠ o → (k < r0 ∨ r1 ≤ k) → cw[k]? = cw0[k]?)
theorem xc.hO {o ci r0 r1 : Nat} {ad : Nat → Nat} {cI : Nat → ClassId} {cw0 : va_W} {V : Nat → Nat → Int32} {vs : List Value} {cw : va_W} (h : xc o ci r0 r1 ad cI cw0 V vs cw) : cw[o]? = some (ad o, .inr (ci, vs)) := h.1
theorem xc.hR {o ci r0 r1 : Nat} {ad : Nat → Nat} {cI : Nat → ClassId} {cw0 : va_W} {V : Nat → Nat → Int32} {vs : List Value} {cw : va_W} (h : xc o ci r0 r1 ad cI cw0 V vs cw) : ∀ r, r0 ≤ r → r < r1 → cw[r]? = some (ad r, .inl (cI r, 7, .inl (V r))) := h.2.1
theorem xc.hE {o ci r0 r1 : Nat} {ad : Nat → Nat} {cI : Nat → ClassId} {cw0 : va_W} {V : Nat → Nat → Int32} {vs : List Value} {cw : va_W} (h : xc o ci r0 r1 ad cI cw0 V vs cw) : cw.length = cw0.length ∧ ∀ k : Nat, k ≠ o → (k < r0 ∨ r1 ≤ k) → cw[k]? = cw0[k]? := h.2.2
def xT (r0 r1 : Nat) (cI : Nat → ClassId) (tys : List (ClassId × FieldType)) : Prop := ∀ r, r0 ≤ r → r < r1 → ∃ t : Nat, tys[t]? = some (cI r, .int)
/-- a row's element written -/
def xup (V : Nat → Nat → Int32) (r i : Nat) (x : Int32) : Nat → Nat → Int32 := fun q => if q = r then upd (V r) i x else V q
theorem xup_s (V : Nat → Nat → Int32) (r i : Nat) (x : Int32) : xup V r i x r = upd (V r) i x := if_pos rfl
theorem xup_n (V : Nat → Nat → Int32) {r q : Nat} (i : Nat) (x : Int32) (h : q ≠ r) : xup V r i x q = V q := if_neg h
section XC
variable {o ci r0 r1 : Nat} {ad : Nat → Nat} {cI : Nat → ClassId} {cw0 cw : va_W} {V : Nat → Nat → Int32} {vs : List Value}
theorem xc.row (h : xc o ci r0 r1 ad cI cw0 V vs cw) (ho : o < r0 ∨ r1 ≤ o) {r i : Nat} {x : Int32} (h0 : r0 ≤ r) (h1 : r < r1) : xc o ci r0 r1 ad cI cw0 (xup V r i x) vs (cw.set r (ad r, .inl (cI r, 7, .inl (upd (V r) i x)))) := by
  have hl := (List.getElem?_eq_some_iff.mp (h.hR r h0 h1)).1
  refine ⟨?_, fun q h2 h3 => ?_, by rw [List.length_set]; exact h.hE.1, fun k h2 h3 => ?_⟩
  · rw [List.getElem?_set_ne (by omega)]
    exact h.hO
  · by_cases e : q = r
    · subst e
      rw [List.getElem?_set_self hl, xup_s]
    · rw [List.getElem?_set_ne (fun z => e z.symm), xup_n V i x e]
      exact h.hR q h2 h3
  · rw [List.getElem?_set_ne (by omega)]
    exact h.hE.2 k h2 h3
theorem xc.fld (h : xc o ci r0 r1 ad cI cw0 V vs cw) (ho : o < r0 ∨ r1 ≤ o) (vs' : List Value) : xc o ci r0 r1 ad cI cw0 V vs' (cw.set o (ad o, .inr (ci, vs'))) := by
  have hl := (List.getElem?_eq_some_iff.mp h.hO).1
  refine ⟨List.getElem?_set_self hl, fun q h2 h3 => ?_, by rw [List.length_set]; exact h.hE.1, fun k h2 h3 => ?_⟩
  · rw [List.getElem?_set_ne (by omega)]
    exact h.hR q h2 h3
  · rw [List.getElem?_set_ne (fun z => h2 z.symm)]
    exact h.hE.2 k h2 h3
theorem xc.trans {cw1 : va_W} {V' : Nat → Nat → Int32} {vs' : List Value} (h : xc o ci r0 r1 ad cI cw0 V vs cw) (h1 : xc o ci r0 r1 ad cI cw V' vs' cw1) : xc o ci r0 r1 ad cI cw0 V' vs' cw1 := ⟨h1.hO, h1.hR, by rw [h1.hE.1]; exact h.hE.1, fun k h2 h3 => (h1.hE.2 k h2 h3).trans (h.hE.2 k h2 h3)⟩
end XC
def xs (D : va_G) (s : State) (A : Nat → Prop) (H : Heap) (locs : List Loc) (cw : va_W) (tys : List (ClassId × FieldType)) : Prop := va_K D zcls tys s ∧ va_P D zcls cw H ∧ va_D A cw ∧ va_S A s.heap H locs
section XW
variable {l : Launch} {D : va_G} {b : Nat → Nat} {tb : yTb}
variable {p : Program} {e : Env} {R : Room} {s : State} {m : MethodId} {args : Array Value} {below : List Frame} {meth : Method} {c : Code} {A : Nat → Prop} {ce sl : Nat} {mr : yMR} {Q : State → Prop}
variable {H : Heap} {locs : List Loc} {cw cw0 : va_W} {tys : List (ClassId × FieldType)} {ls : Array Slot} {rest : List Value} {pc : Nat}
variable {o ci r0 r1 : Nat} {ad : Nat → Nat} {cI : Nat → ClassId} {V : Nat → Nat → Int32} {vs : List Value}
theorem xget (hF : y_Fix ztb znw b zcls tb p R s m args meth c A mr) (hs : xs D s A H locs cw tys) {q0 a ck : Nat} {C : String} {T : u_T} {N : Nat} {fs : List Value} (he : cw[q0]? = some (a, .inr (ck, fs))) (hc : zcls[ck]? = some (C, T, N)) (k : Nat) (hk : k < N) {index n : Nat} (hw : z_w ztb n (.fieldLink (y_y mr).cls index (T k).1 (T k).2.1 (T k).2.2.1) = true) {v : Value} (hv : fs[k]? = some v) (hd : y_dcd (y_cc mr) pc (.getfield index) 3 = true) (kk : W p l e R s m args below meth c H locs ce sl Q (F0 m (pc + 3) ls (v :: rest))) : W p l e R s m args below meth c H locs ce sl Q (F0 m pc ls (.ref a :: rest)) := by
  obtain ⟨hx, hb, hml, hown, hts, hR, hN, hA0, hok⟩ := id hF
  obtain ⟨y1, _⟩ := zCF ck _ hc
  exact va_get (D := D) (ci := ck) (C := C) (T := T) (N := N) hx hb hts y1 hown hs.1 hs.2.1 q0 he hc k hk (hts _ (z_w_ok hw)) (fun _ h9 => h9) hv (y_dcd_ok hd) kk
/-- a field of the object itself -/
theorem xgo (hF : y_Fix ztb znw b zcls tb p R s m args meth c A mr) (hs : xs D s A H locs cw tys) (hc : xc o ci r0 r1 ad cI cw0 V vs cw) {C : String} {T : u_T} {N : Nat} (hz : zcls[ci]? = some (C, T, N)) (k : Nat) (hk : k < N) {index n : Nat} (hw : z_w ztb n (.fieldLink (y_y mr).cls index (T k).1 (T k).2.1 (T k).2.2.1) = true) {v : Value} (hv : vs[k]? = some v) (hd : y_dcd (y_cc mr) pc (.getfield index) 3 = true) (kk : W p l e R s m args below meth c H locs ce sl Q (F0 m (pc + 3) ls (v :: rest))) : W p l e R s m args below meth c H locs ce sl Q (F0 m pc ls (.ref (ad o) :: rest)) := xget hF hs hc.hO hz k hk hw hv hd kk
theorem xpo (hF : y_Fix ztb znw b zcls tb p R s m args meth c A mr) (hs : xs D s A H locs cw tys) (ho : o < r0 ∨ r1 ≤ o) (hc : xc o ci r0 r1 ad cI cw0 V vs cw) {C : String} {T : u_T} {N : Nat} (hz : zcls[ci]? = some (C, T, N)) (k : Nat) (hk : k < N) {index n : Nat} (hw : z_w ztb n (.fieldLink (y_y mr).cls index (T k).1 (T k).2.1 (T k).2.2.1) = true) (hfin : (T k).2.2.2 = false) (hty : parseFieldDescriptor (T k).2.2.1 = some .int) {x : Int32} (hl : k < vs.length) (hd : y_dcd (y_cc mr) pc (.putfield index) 3 = true) (kk : ∀ (H1 : Heap) (locs1 : List Loc) (cw1 : va_W), xs D s A H1 locs1 cw1 tys → xc o ci r0 r1 ad cI cw0 V (vs.set k (.int x)) cw1 → W p l e R s m args below meth c H1 locs1 ce sl Q (F0 m (pc + 3) ls rest)) : W p l e R s m args below meth c H locs ce sl Q (F0 m pc ls (.int x :: .ref (ad o) :: rest)) := by
  obtain ⟨hx, hb, hml, hown, hts, hR, hN, hA0, hok⟩ := id hF
  obtain ⟨f1, f2, f3, f4, ty', dv, f5, f6, f7, f8, f9⟩ := zCF ci _ hz
  exact va_put (D := D) (ci := ci) (C := C) (T := T) (N := N) hx hb hts f1 ty' f7 f2 hown hs.1 hs.2.1 hs.2.2.1 hs.2.2.2 o hc.hO hz k hk (hts _ (z_w_ok hw)) (fun _ h9 => h9) hfin hty rfl rfl hl (y_dcd_ok hd) (fun H1 locs1 hP1 hD1 hS1 => kk H1 locs1 _ ⟨hs.1, hP1, hD1, hS1⟩ (hc.fld ho _))
theorem xald (hF : y_Fix ztb znw b zcls tb p R s m args meth c A mr) (hs : xs D s A H locs cw tys) (ht : xT r0 r1 cI tys) (hc : xc o ci r0 r1 ad cI cw0 V vs cw) {r : Nat} (h0 : r0 ≤ r) (h1 : r < r1) {i : Int32} (hin : vp_in i 7) (hd : y_dcd (y_cc mr) pc .iaload 1 = true) (kk : W p l e R s m args below meth c H locs ce sl Q (F0 m (pc + 1) ls (.int (V r i.toNatClampNeg) :: rest))) : W p l e R s m args below meth c H locs ce sl Q (F0 m pc ls (.int i :: .ref (ad r) :: rest)) := by
  obtain ⟨hx, hb, hml, hown, hts, hR, hN, hA0, hok⟩ := id hF
  obtain ⟨t0, ht0⟩ := ht r h0 h1
  exact va_iald hx hb hs.1 hs.2.1 r t0 (hc.hR r h0 h1) ht0 hin (y_dcd_ok hd) kk
theorem xast (hF : y_Fix ztb znw b zcls tb p R s m args meth c A mr) (hs : xs D s A H locs cw tys) (ht : xT r0 r1 cI tys) (ho : o < r0 ∨ r1 ≤ o) (hc : xc o ci r0 r1 ad cI cw0 V vs cw) {r : Nat} (h0 : r0 ≤ r) (h1 : r < r1) {i x : Int32} (hin : vp_in i 7) (hd : y_dcd (y_cc mr) pc .iastore 1 = true) (kk : ∀ (H1 : Heap) (locs1 : List Loc) (cw1 : va_W), xs D s A H1 locs1 cw1 tys → xc o ci r0 r1 ad cI cw0 (xup V r i.toNatClampNeg x) vs cw1 → W p l e R s m args below meth c H1 locs1 ce sl Q (F0 m (pc + 1) ls rest)) : W p l e R s m args below meth c H locs ce sl Q (F0 m pc ls (.int x :: .int i :: .ref (ad r) :: rest)) := by
  obtain ⟨hx, hb, hml, hown, hts, hR, hN, hA0, hok⟩ := id hF
  obtain ⟨t0, ht0⟩ := ht r h0 h1
  exact va_iast hx hb hs.1 hs.2.1 hs.2.2.1 hs.2.2.2 r t0 (hc.hR r h0 h1) ht0 hin (y_dcd_ok hd) (fun H1 locs1 hP1 hD1 hS1 => kk H1 locs1 _ ⟨hs.1, hP1, hD1, hS1⟩ (hc.row ho h0 h1))
theorem xmx (hF : y_Fix ztb znw b zcls tb p R s m args meth c A mr) (hls : ls.size = y_mL mr) {index n : Nat} (hw : z_w ztb n (.methodLink (y_y mr).cls index Lib.Math.max.name) = true) (hst : Jvm.Cond.static Lib.Math.max.name ∈ z_G ztb ∧ Jvm.Cond.initialized "java/lang/Math" ∈ z_G ztb ∧ Jvm.Cond.code Lib.Math.max.name Lib.Math.max.code 2 (some .int) ∈ z_G ztb) (hfr : 1 ≤ R.frames) (hlo : (rest.map fun v => v.category).sum + 13 ≤ R.locals) (hce : ce ≤ R.cells) (hsl : sl ≤ R.slots) {x y : Int32} (hd : y_dcd (y_cc mr) pc (.invokestatic index) 3 = true) (kk : W p l e R s m args below meth c H locs ce sl Q (F0 m (pc + 3) ls (.int (dmx x y) :: rest))) : W p l e R s m args below meth c H locs ce sl Q (F0 m pc ls (.int y :: .int x :: rest)) := by
  obtain ⟨hx, hb, hml, hown, hts, hR, hN, hA0, hok⟩ := id hF
  exact va_mmax hx hb (hml.trans hls.symm) hown (hts _ (z_w_ok hw)) (hts _ hst.1) (hts _ hst.2.1) (hts _ hst.2.2) hfr hlo hce hsl (y_dcd_ok hd) kk
/-- behind a call -/
theorem xbehind (hF : y_Fix ztb znw b zcls tb p R s m args meth c A mr) (hs : xs D s A H locs cw tys) {X : va_W → List (ClassId × FieldType) → Option Value → Prop} {av ct cst : List Value} (hrun : va_Run p l e R s m args below meth c H locs ce sl 0 0 (F0 m pc ls cst) ct (y_Q zcls D X cw H.size av.toArray) (va_A cw H.size)) (kk : ∀ (H1 : Heap) (locs1 : List Loc) (cw' : va_W) (tys' : List (ClassId × FieldType)) (rv : Option Value), xs D s A H1 locs1 cw' tys' → X cw' tys' rv → W p l e R s m args below meth c H1 locs1 ce sl Q (F0 m (pc + 3) ls (rv.toList ++ ct))) : W p l e R s m args below meth c H locs ce sl Q (F0 m pc ls cst) := by
  have hA0 : ∀ q, s.heap.size ≤ q → A q := hF.2.2.2.2.2.2.2.1
  obtain ⟨hK, hP, hD, hS0⟩ := hs
  refine z_goon hrun ?_
  intro v st₀ t1 H1 locs1 e0 e1 hvm hq hloc
  obtain ⟨⟨cw', tys', rv, q1, q2, q3, q4, q5⟩, hz, hk⟩ := hq
  have q1 : v = rv := by cases q1; rfl
  subst q1
  rw [e0] at hz hk
  have hfree : ∀ q, va_A cw H.size q → A q := by
    intro q h
    rcases h with ⟨k, x, h⟩ | h
    · exact hD.2 k _ h
    · exact hA0 q (Nat.le_trans hS0.1 h)
  refine kk H1 locs1 cw' tys' v ⟨va_K.moved hvm.symm q3, by rw [← e1]; exact q2, q4.weaken (fun k q _ h => hfree q.1 h), Nat.le_trans hS0.1 (by rw [← e1]; exact hz), fun q h1 h2 => ?_, fun q h => ?_⟩ q5
  · rw [← e1, hk q (Nat.lt_of_lt_of_le h1 hS0.1) (fun z => h2 (hfree q z))]
    exact hS0.2.1 q h1 h2
  · rcases hloc q h with h | h
    · exact hS0.2.2 q h
    · exact hfree _ h
theorem xPre (hF : y_Fix ztb znw b zcls tb p R s m args meth c A mr) (hs : xs D s A H locs cw tys) (av : List Value) : PreS s H (y_Pc znw b zcls D cw tys H.size av) av := by
  obtain ⟨hK, hP, hD, hS0⟩ := hs
  have hN : y_NW znw b A s := hF.2.2.2.2.2.2.1
  have hA0 : ∀ q, s.heap.size ≤ q → A q := hF.2.2.2.2.2.2.2.1
  exact ⟨fun a U g mk q => by
      obtain ⟨q0, q1, qP, qK, qD, qN⟩ := q
      exact ⟨q0, q1, qP, va_K.moved (u := U) (U := U.calling g mk a) (Vm.Alike.refl U.vm) qK, qD, y_NW_call rfl rfl qN⟩,
    fun U hU hW => ⟨rfl, by rw [hU], by rw [hU]; exact hP, va_K.moved hW.alike hK, hD.weaken (fun _ _ _ _ => trivial), y_NW_warm hW hU hS0 hD hA0 hN⟩⟩
/-- a call of a method of an object -/
theorem xcallV (hF : y_Fix ztb znw b zcls tb p R s m args meth c A mr) (hs : xs D s A H locs cw tys) (hls : ls.size = y_mL mr) {q0 a ck : Nat} {fs : List Value} (he : cw[q0]? = some (a, .inr (ck, fs))) {cm : yMR} (hM : y_okM ztb zcls cm) (hck : y_ci cm = ck) (hck9 : ck < 99) {j n : Nat} (hw : z_w ztb n (.methodLink (y_y mr).cls j (y_y cm)) = true) {As : List Value} (hdesc : (parseMethodDescriptor (y_y cm).desc).map (fun d => d.parameters.length) = some As.length) (hd : y_dcd (y_cc mr) pc (.invokevirtual j) 3 = true) (hRm : (y_rm cm).frames + 1 ≤ R.frames ∧ 8 + (y_mL cm + 11) + (y_rm cm).locals ≤ R.locals) (hrc : (y_rm cm).cells = 0 ∧ (y_rm cm).slots = 0) (hrest : (rest.map fun v => v.category).sum ≤ 8) (hcs : ce ≤ R.cells ∧ sl ≤ R.slots) {X : va_W → List (ClassId × FieldType) → Option Value → Prop}
    (hMet : Met l (y_y cm) (y_ws ztb cm) (y_rm cm) (y_Pc znw b zcls D cw tys H.size (.ref a :: As)) (y_Q zcls D X cw H.size) 0 0 (va_A cw H.size))
    (kk : ∀ (H1 : Heap) (locs1 : List Loc) (cw' : va_W) (tys' : List (ClassId × FieldType)) (rv : Option Value), xs D s A H1 locs1 cw' tys' → X cw' tys' rv → W p l e R s m args below meth c H1 locs1 ce sl Q (F0 m (pc + 3) ls (rv.toList ++ rest))) : W p l e R s m args below meth c H locs ce sl Q (F0 m pc ls (As.reverse ++ .ref a :: rest)) := by
  obtain ⟨hx, hb, hml, hown, hts, hR, hN, hA0, hok⟩ := id hF
  obtain ⟨m1, m2, m3, m4, m5, m6⟩ := hM
  obtain ⟨⟨m8, m9⟩, _, m10⟩ := m5 (by omega)
  obtain ⟨cq, m10, m11⟩ := m10 (by omega)
  have hpre := xPre hF hs (.ref a :: As)
  rw [hck] at m10
  exact xbehind hF hs (va_runV (As := As) (rest := rest) (C := (y_y cm).cls) ⟨hx, hb, hml, hown, hts⟩ hMet (cwV As.length hts (y_goodV m1 (z_w_ok hw) m8 m9 m2) rfl hrc.1 hrc.2 ⟨rfl, m4.1, m4.2, hdesc⟩ hRm) ⟨hpre.1, by rw [← m11]; exact va_recv hs.1 hs.2.1 m10 he, hpre.2⟩ rfl rfl hls rfl (lv_room hrest) (y_dcd_ok hd) hcs) kk
/-- a call of a method of a class -/
theorem xcallS (hF : y_Fix ztb znw b zcls tb p R s m args meth c A mr) (hs : xs D s A H locs cw tys) (hls : ls.size = y_mL mr) {cm : yMR} (hM : y_okM ztb zcls cm) (hck : 100 ≤ y_ci cm) {j n : Nat} (hw : z_w ztb n (.methodLink (y_y mr).cls j (y_y cm)) = true) {As : List Value} (hdesc : (parseMethodDescriptor (y_y cm).desc).map (fun d => d.parameters.length) = some As.length) (hd : y_dcd (y_cc mr) pc (.invokestatic j) 3 = true) (hRm : (y_rm cm).frames + 1 ≤ R.frames ∧ 8 + (y_mL cm + 11) + (y_rm cm).locals ≤ R.locals) (hrc : (y_rm cm).cells = 0 ∧ (y_rm cm).slots = 0) (hrest : (rest.map fun v => v.category).sum ≤ 8) (hcs : ce ≤ R.cells ∧ sl ≤ R.slots) {X : va_W → List (ClassId × FieldType) → Option Value → Prop}
    (hMet : Met l (y_y cm) (y_ws ztb cm) (y_rm cm) (y_Pc znw b zcls D cw tys H.size As) (y_Q zcls D X cw H.size) 0 0 (va_A cw H.size))
    (kk : ∀ (H1 : Heap) (locs1 : List Loc) (cw' : va_W) (tys' : List (ClassId × FieldType)) (rv : Option Value), xs D s A H1 locs1 cw' tys' → X cw' tys' rv → W p l e R s m args below meth c H1 locs1 ce sl Q (F0 m (pc + 3) ls (rv.toList ++ rest))) : W p l e R s m args below meth c H locs ce sl Q (F0 m pc ls (As.reverse ++ rest)) := by
  obtain ⟨hx, hb, hml, hown, hts, hR, hN, hA0, hok⟩ := id hF
  obtain ⟨m1, m2, m3, m4, m5, m6⟩ := hM
  exact xbehind hF hs (va_runS (As := As) (rest := rest) ⟨hx, hb, hml, hown, hts⟩ hMet (va_cwS As.length hts (y_goodS m1 (z_w_ok hw) (m6 hck) m2) rfl hrc.1 hrc.2 ⟨m4.1, m4.2, hdesc⟩ hRm) (xPre hF hs As) rfl rfl hls rfl (lv_room hrest) (y_dcd_ok hd) hcs) kk
theorem xcallN (hF : y_Fix ztb znw b zcls tb p R s m args meth c A mr) (hs : xs D s A H locs cw tys) (hls : ls.size = y_mL mr) {cm : yMR} (hM : y_okM ztb zcls cm) (hck : 100 ≤ y_ci cm) {j n : Nat} {host : String} (hw : znw[n]? = some (.methodLinkNest (y_y mr).cls j (y_y cm) host)) {As : List Value} (hdesc : (parseMethodDescriptor (y_y cm).desc).map (fun d => d.parameters.length) = some As.length) (hd : y_dcd (y_cc mr) pc (.invokestatic j) 3 = true) (hRm : (y_rm cm).frames + 1 ≤ R.frames ∧ 8 + (y_mL cm + 11) + (y_rm cm).locals ≤ R.locals) (hrc : (y_rm cm).cells = 0 ∧ (y_rm cm).slots = 0) (hrest : (rest.map fun v => v.category).sum ≤ 8) (hcs : ce ≤ R.cells ∧ sl ≤ R.slots) {X : va_W → List (ClassId × FieldType) → Option Value → Prop}
    (hMet : Met l (y_y cm) (y_ws ztb cm) (y_rm cm) (y_Pc znw b zcls D cw tys H.size As) (y_Q zcls D X cw H.size) 0 0 (va_A cw H.size))
    (kk : ∀ (H1 : Heap) (locs1 : List Loc) (cw' : va_W) (tys' : List (ClassId × FieldType)) (rv : Option Value), xs D s A H1 locs1 cw' tys' → X cw' tys' rv → W p l e R s m args below meth c H1 locs1 ce sl Q (F0 m (pc + 3) ls (rv.toList ++ rest))) : W p l e R s m args below meth c H locs ce sl Q (F0 m pc ls (As.reverse ++ rest)) := by
  obtain ⟨hx, hb, hml, hown, hts, hR, hN, hA0, hok⟩ := id hF
  obtain ⟨m1, m2, m3, m4, m5, m6⟩ := hM
  exact xbehind hF hs (va_runSN (As := As) (rest := rest) ⟨hx, hb, hml, hown, hts⟩ hMet ⟨va_cnB As.length hts (y_goodIn m1) rfl hrc.1 hrc.2 (hN.1.1 _ _ _ _ (List.mem_of_getElem? hw)) (hts _ m2) ⟨m4.1, m4.2, hdesc⟩ hRm, hts _ (m6 hck), trivial⟩ (xPre hF hs As) rfl rfl hls rfl (lv_room hrest) (y_dcd_ok hd) hcs) kk
end XW
/-- a method, gone through from its entry by hand -/
theorem xMet {l : Launch} {D : va_G} {b : Nat → Nat} {tb : yTb} {cw : va_W} {tys : List (ClassId × FieldType)} {sz : Nat} {av : List Value} {mr : yMR} (hM : y_okM ztb zcls mr) (hcode : ∀ x ∈ y_cd mr, y_okE ztb znw zcls tb mr x = true) (hlen : (lg_sl av).length ≤ y_mL mr) {X : va_W → List (ClassId × FieldType) → Option Value → Prop}
    (hW : ∀ (p : Program) (e : Env) (s : State) (m : MethodId) (below : List Frame) (meth : Method) (c : Code) (Q : State → Prop) (ls : Array Slot), s.heap.size = sz → y_Fix ztb znw b zcls tb p (y_rm mr) s m av.toArray meth c (va_A cw sz) mr → xs D s (va_A cw sz) s.heap [] cw tys → lv_has ls (y_mL mr) (lv_args 0 av) →
      (∀ (H : Heap) (locs : List Loc) (cw1 : va_W) (tys1 : List (ClassId × FieldType)) (ls : Array Slot) (pc : Nat), y_rt mr = none → y_dcd (y_cc mr) pc .return_ 1 = true → xs D s (va_A cw sz) H locs cw1 tys1 → X cw1 tys1 none → W p l e (y_rm mr) s m av.toArray below meth c H locs 0 0 Q (F0 m pc ls [])) →
      (∀ (H : Heap) (locs : List Loc) (cw1 : va_W) (tys1 : List (ClassId × FieldType)) (ls : Array Slot) (pc : Nat) (x : Int32) (ty : FieldType), y_rt mr = some ty → narrow ty (.int x) = .int x → y_dcd (y_cc mr) pc .ireturn 1 = true → xs D s (va_A cw sz) H locs cw1 tys1 → X cw1 tys1 (some (.int x)) → W p l e (y_rm mr) s m av.toArray below meth c H locs 0 0 Q (F0 m pc ls [.int x])) →
      W p l e (y_rm mr) s m av.toArray below meth c s.heap [] 0 0 Q (F0 m 0 ls [])) :
    Met l (y_y mr) (y_ws ztb mr) (y_rm mr) (y_Pc znw b zcls D cw tys sz av) (y_Q zcls D X cw sz) 0 0 (va_A cw sz) := by
  refine Met.ofW (cc := y_cc mr) (maxL := y_mL mr) (ret := y_rt mr) hM.2.2.1 rfl ?_
  intro p e s m args below meth cd s₁ B hml hv
  obtain ⟨rfl, hsz, hP0, hKK0, hD0, hN⟩ := hv
  subst hsz
  have hD := hD0.self (sz := s.heap.size)
  have hts := atoms_spec (ws := y_ws ztb mr) B.pre
  have hl := lv_entry av (n := y_mL mr) hlen
  rw [lg_entry_eq]
  have hFix : y_Fix ztb znw b zcls tb p (y_rm mr) s m av.toArray meth cd (va_A cw s.heap.size) mr := ⟨B.exec, B.bytes, hml, findClass_of_methodNamed B.named, fun x hx => hts x (List.mem_cons_of_mem _ hx), rfl, hN, fun q h => Or.inr h, hcode⟩
  have hlocks := B.notSynchronized
  exact hW p e s m below meth cd _ _ rfl hFix ⟨hKK0, hP0, hD, va_S.rf⟩ hl (fun H locs cw1 tys1 ls pc h1 h2 h3 h4 => W.vret B.exec B.bytes (by rw [B.returns]; exact h1) (fun t ht hW => ⟨⟨cw1, tys1, none, rfl, by rw [ht]; exact h3.2.1, va_K.moved hW.alike h3.1, h3.2.2.1, h4⟩, h3.2.2.2.F ht⟩) h3.2.2.2.2.2 (y_dcd_ok h2)) (fun H locs cw1 tys1 ls pc x ty h1 hn h2 h3 h4 => W.zret B.exec B.bytes (by rw [B.returns]; exact h1) hn (fun t ht hW => ⟨⟨cw1, tys1, some (.int x), rfl, by rw [ht]; exact h3.2.1, va_K.moved hW.alike h3.1, h3.2.2.1, h4⟩, h3.2.2.2.F ht⟩) h3.2.2.2.2.2 (y_dcd_ok h2))
