-- the reference: dispatch
theorem dsm_ok {F G : Nat → Nat} : ∀ {n : Nat}, dsm F G n = true → ∀ j, j < n → F j = G j
  | 0, _, j, hj => absurd hj (Nat.not_lt_zero _)
  | n + 1, h, j, hj => by
    obtain ⟨h1, h2⟩ := z_and (show and (Nat.beq (F n) (G n)) (dsm F G n) = true from h)
    by_cases e : j = n
    · rw [e]
      exact Nat.eq_of_beq_eq_true h1
    · exact dsm_ok h2 j (by omega)
theorem drow_l (t : Nat) (q : List Nat) : drow (t :: q) q.length = t := by
  unfold drow
  rw [List.reverse_cons, List.getD_eq_getElem?_getD, List.getElem?_append_right (by simp), List.length_reverse, Nat.sub_self]
  rfl
theorem drow_s (t : Nat) (q : List Nat) {j : Nat} (h : j < q.length) : drow (t :: q) j = drow q j := by
  unfold drow
  rw [List.reverse_cons, List.getD_eq_getElem?_getD, List.getElem?_append_left (by simpa using h), List.getD_eq_getElem?_getD]
theorem dOrd_row {o : Nat → Int32} : ∀ {q : List Nat}, (∀ j, j < q.length → o j = nI (drow q j)) → dOrd o q
  | [], _ => trivial
  | t :: q, h => ⟨by rw [h q.length (by simp), drow_l], dOrd_row fun j hj => by rw [h j (by simp; omega), drow_s t q hj]⟩
theorem dex_mem {n : Nat} : ∀ (m : Nat) (ps : List Nat), (∀ t ∈ ps, t < n) → ∀ q ∈ dex n m ps, q.length = ps.length + m ∧ ∀ t ∈ q, t < n
  | 0, ps, h, q, hq => by
    rw [List.mem_singleton.mp hq]
    exact ⟨rfl, h⟩
  | m + 1, ps, h, q, hq => by
    obtain ⟨t, ht, hq⟩ := List.mem_flatMap.mp hq
    split at hq
    · cases hq
    · have := dex_mem m (t :: ps) (fun u hu => by
        rcases List.mem_cons.mp hu with rfl | hu
        · exact List.mem_range.mp ht
        · exact h u hu) q hq
      simp only [List.length_cons] at this
      exact ⟨by omega, this.2⟩
theorem dchk_le {n : Nat} (h : n ≤ 7) : dchk n = true := by
  rcases (by omega : n = 0 ∨ n = 1 ∨ n = 2 ∨ n = 3 ∨ n = 4 ∨ n = 5 ∨ n = 6 ∨ n = 7) with rfl | rfl | rfl | rfl | rfl | rfl | rfl | rfl
  · decide +kernel
  · decide +kernel
  · decide +kernel
  · decide +kernel
  · decide +kernel
  · decide +kernel
  · decide +kernel
  · exact dchk7
def dJ (ad : Nat → Nat) (cI : Nat → ClassId) (cw0 : va_W) (n : Nat) (vs : List Value) (V0 V : Nat → Nat → Int32) (β : Int32 × List Nat) (cw : va_W) : Prop := (xc 114 12 213 224 ad cI cw0 V vs cw) ∧ (∀ q, 213 ≤ q → q < 218 → V q = V0 q) ∧ (dBst (dRm V0) (V 221) (V 222) (V 223) β.2) ∧ (∀ i, n ≤ i → V 221 i = V0 221 i ∧ V 222 i = V0 222 i ∧ V 223 i = V0 223 i)
theorem dJ.c {ad : Nat → Nat} {cI : Nat → ClassId} {cw0 : va_W} {n : Nat} {vs : List Value} {V0 V : Nat → Nat → Int32} {β : Int32 × List Nat} {cw : va_W} (h : dJ ad cI cw0 n vs V0 V β cw) : xc 114 12 213 224 ad cI cw0 V vs cw := h.1
theorem dJ.r {ad : Nat → Nat} {cI : Nat → ClassId} {cw0 : va_W} {n : Nat} {vs : List Value} {V0 V : Nat → Nat → Int32} {β : Int32 × List Nat} {cw : va_W} (h : dJ ad cI cw0 n vs V0 V β cw) : ∀ q, 213 ≤ q → q < 218 → V q = V0 q := h.2.1
theorem dJ.k {ad : Nat → Nat} {cI : Nat → ClassId} {cw0 : va_W} {n : Nat} {vs : List Value} {V0 V : Nat → Nat → Int32} {β : Int32 × List Nat} {cw : va_W} (h : dJ ad cI cw0 n vs V0 V β cw) : dBst (dRm V0) (V 221) (V 222) (V 223) β.2 := h.2.2.1
theorem dJ.b {ad : Nat → Nat} {cI : Nat → ClassId} {cw0 : va_W} {n : Nat} {vs : List Value} {V0 V : Nat → Nat → Int32} {β : Int32 × List Nat} {cw : va_W} (h : dJ ad cI cw0 n vs V0 V β cw) : ∀ i, n ≤ i → V 221 i = V0 221 i ∧ V 222 i = V0 222 i ∧ V 223 i = V0 223 i := h.2.2.2
theorem dMv.set {ad : Nat → Nat} {n : Nat} {vs : List Value} (h : dMv ad n vs) (x : Value) : dMv ad n (vs.set 142 x) := by
  have hn : ∀ k, k ≠ 142 → (vs.set 142 x)[k]? = vs[k]? := fun k hk => List.getElem?_set_ne (fun z => hk z.symm)
  exact ⟨by rw [hn _ (by decide)]; exact h.h133, by rw [hn _ (by decide)]; exact h.h134, by rw [hn _ (by decide)]; exact h.h135, by rw [hn _ (by decide)]; exact h.h136, by rw [hn _ (by decide)]; exact h.h137, by rw [hn _ (by decide)]; exact h.h138, by rw [hn _ (by decide)]; exact h.h139, by rw [hn _ (by decide)]; exact h.h140, by rw [hn _ (by decide)]; exact h.h141, by rw [List.length_set]; exact h.h142, by rw [hn _ (by decide)]; exact h.h143, by rw [hn _ (by decide)]; exact h.h144, by rw [hn _ (by decide)]; exact h.h145⟩
section XF
variable {l : Launch} {D : va_G} {b : Nat → Nat} {cw cw0 : va_W} {tys : List (ClassId × FieldType)} {sz : Nat} {ad : Nat → Nat} {cI : Nat → ClassId} {V : Nat → Nat → Int32}
set_option maxHeartbeats 8000000 in
theorem dM_dim {n : Nat} (hn : n ≤ 7) (hB : ∀ i, dB (dRm V) i) {vs : List Value} (hv : dMv ad n vs) (hT : xT 213 224 cI tys) (hc : xc 114 12 213 224 ad cI cw0 V vs cw) : Met l (y_y xDim) (y_ws ztb xDim) (y_rm xDim) (y_Pc znw b zcls D cw tys sz [.ref (ad 114)]) (y_Q zcls D (fun cw' tys' rv => rv = some (.int (dtr (dRm V) n n [] dβ0).1) ∧ tys' = tys ∧ ∃ V', dJ ad cI cw0 n (vs.set 142 (.int (nI n))) V V' (dtr (dRm V) n n [] dβ0) cw') cw sz) 0 0 (va_A cw sz) := by
  refine xMet (tb := ytb yw00) (mr := xDim) yo_yr205 (fun x hx => by cases hx) (Nat.le_of_ble_eq_true rfl) ?_
  intro p e s m below meth c Q ls hsz hF hs hl kv ki
  have hl : lv_has ls 5 [(0, .ref (ad 114))] := hl
  generalize va_A cw sz = A at *
  -- behind the first loop
  have mid : ∀ (H : Heap) (locs : List Loc) (cw : va_W) (V1 : Nat → Nat → Int32) (ls : Array Slot), xs D s A H locs cw tys → xc 114 12 213 224 ad cI cw0 V1 vs cw → (∀ r, r ≠ 218 → V1 r = V r) → (∀ j, j < n → V1 218 j = nI j) → lv_has ls 5 [(0, .ref (ad 114))] → W p l e (y_rm xDim) s m [Value.ref (ad 114)].toArray below meth c H locs 0 0 Q (F0 m 23 ls []) := by
    intro H locs cw V1 ls hs hc hk hid hl
    refine lv_aload_n (k := 0) hF.1 hF.2.1 (y_dcd_ok (by decide +kernel)) rfl (lv_at hl 0 rfl) ?_
    refine lv_aload_n (k := 0) hF.1 hF.2.1 (y_dcd_ok (by decide +kernel)) rfl (lv_at hl 0 rfl) ?_
    refine xgo (n := 9003) (index := 850) hF hs hc rfl 133 (by decide) (by decide +kernel) hv.h133 (by decide +kernel) ?_
    refine xpo (n := 9012) (index := 856) hF hs (by decide) hc rfl 142 (by decide) (by decide +kernel) rfl (by decide +kernel) hv.h142 (by decide +kernel) (fun H locs cw hs hc => ?_)
    replace hv := hv.set (.int (nI n))
    obtain ⟨vs', hvs⟩ : ∃ vs', vs' = vs.set 142 (.int (nI n)) := ⟨_, rfl⟩
    rw [← hvs] at hc hv ki
    -- the orders one by one
    have loopB : ∀ (rest : List (List Nat)) (q : List Nat) (β : Int32 × List Nat), (∀ x ∈ q :: rest, x.length = n ∧ ∀ t ∈ x, t < 7) → dch n q rest = true → (q :: rest).foldl (dup (dRm V)) β = dtr (dRm V) n n [] dβ0 → ∀ lst : Int32, ((lst = β.1 ∧ 0 ≤ β.1.toInt) ∨ (lst = -1 ∧ β = dβ0)) → ∀ (H : Heap) (locs : List Loc) (cw : va_W) (V1 : Nat → Nat → Int32) (ls : Array Slot), xs D s A H locs cw tys → dJ ad cI cw0 n vs' V V1 β cw → dHas (V1 218) n (drow q) → lv_has ls 5 [(2, .int 1), (1, .int lst), (0, .ref (ad 114))] → W p l e (y_rm xDim) s m [Value.ref (ad 114)].toArray below meth c H locs 0 0 Q (F0 m 35 ls []) := by
      intro rest
      induction rest with
      | nil =>
        intro q β hmem hch hfin lst hlst H locs cw V1 ls hs hJ hH hl
        have hc := hJ.c
        obtain ⟨hql, hq7⟩ := hmem q List.mem_cons_self
        have hRm : dRm V1 = dRm V := by
          unfold dRm
          rw [hJ.r 213 (by decide) (by decide), hJ.r 214 (by decide) (by decide), hJ.r 215 (by decide) (by decide), hJ.r 216 (by decide) (by decide), hJ.r 217 (by decide) (by decide)]
        have hO : dOrd (V1 218) q := dOrd_row fun j hj => (hH j (by omega)).1
        have hco := dco_in hB q (by omega)
        -- behind the comparison
        have next : ∀ (H : Heap) (locs : List Loc) (cw : va_W) (V3 : Nat → Nat → Int32) (β' : Int32 × List Nat) (ls : Array Slot), xs D s A H locs cw tys → dJ ad cI cw0 n vs' V V3 β' cw → V3 218 = V1 218 → β' = dup (dRm V) β q → 0 ≤ β'.1.toInt → lv_has ls 5 [(1, .int β'.1), (0, .ref (ad 114))] → W p l e (y_rm xDim) s m [Value.ref (ad 114)].toArray below meth c H locs 0 0 Q (F0 m 115 ls []) := by
          intro H locs cw V3 β' ls hs hJ hV3 hβ hβ0 hl
          have hc := hJ.c
          have hH3 : dHas (V3 218) n (drow q) := by rw [hV3]; exact hH
          refine lv_aload_n (k := 0) hF.1 hF.2.1 (y_dcd_ok (by decide +kernel)) rfl (lv_at hl 1 rfl) ?_
          refine xcallV (As := []) (rest := []) (n := 12235) (j := 862) hF hs hl.1 hc.hO (cm := xNex) yo_ym109 rfl (by decide) (by decide +kernel) (show _ = some 0 from by decide +kernel) (by decide +kernel) ⟨by decide, by decide⟩ ⟨rfl, rfl⟩ (Nat.le_of_ble_eq_true rfl) ⟨Nat.zero_le _, Nat.zero_le _⟩ (dM_nex hn hv hT hc hH3) (fun H1 locs1 cw1 tys1 rv hs hX => ?_)
          obtain ⟨e2, V4, hc4, hk4, hcase⟩ := hX
          rw [e2] at hs
          have hJ4 : dJ ad cI cw0 n vs' V V4 β' cw1 := ⟨hc4, fun q h1 h2 => by rw [hk4 q (by omega)]; exact hJ.r q h1 h2, by rw [hk4 221 (by decide), hk4 222 (by decide), hk4 223 (by decide)]; exact hJ.k, by rw [hk4 221 (by decide), hk4 222 (by decide), hk4 223 (by decide)]; exact hJ.b⟩
          rcases hcase with ⟨e1, hnx⟩ | ⟨e1, F', hnx, hF'⟩
          · subst e1
            show W _ _ _ _ _ _ _ _ _ _ _ _ _ _ _ (F0 m 119 ls [.int 0])
            refine lv_istore_n (nL := 5) (k := 2) hF.1 hF.2.1 (y_dcd_ok (by decide +kernel)) rfl hl (by decide) rfl (fun ls hl => ?_)
            refine lv_goto (off := (-85)) (tgt := 35) hF.1 hF.2.1 (y_dcd_ok (by decide +kernel)) (by decide) ?_
            refine lv_iload_n (k := 2) hF.1 hF.2.1 (y_dcd_ok (by decide +kernel)) rfl (lv_at hl 0 rfl) ?_
            refine lv_if_eq (off := 87) (tgt := 123) hF.1 hF.2.1 (y_dcd_ok (by decide +kernel)) (by decide) (fun hq => ?_) (fun hq => ?_)
            · show W _ _ _ _ _ _ _ _ _ _ _ _ _ _ _ (F0 m 123 ls [])
              refine lv_iload_n (k := 1) hF.1 hF.2.1 (y_dcd_ok (by decide +kernel)) rfl (lv_at hl 1 rfl) ?_
              have hfin : β' = dtr (dRm V) n n [] dβ0 := by rw [← hfin, hβ]; rfl
              exact ki _ _ cw1 tys ls _ _ .int rfl rfl (by decide +kernel) hs ⟨by rw [← hfin], rfl, V4, by rw [← hfin]; exact hJ4⟩
            · exact absurd rfl hq
          · have hch : (match dnx n (drow q) with
              | none => true
              | some _ => false) = true := hch
            rw [hnx] at hch
            cases hch
        -- this order is taken
        have take : ∀ (H : Heap) (locs : List Loc) (cw : va_W) (V2 : Nat → Nat → Int32) (ls : Array Slot), xs D s A H locs cw tys → xc 114 12 213 224 ad cI cw0 V2 vs' cw → (∀ r, r ≠ 219 → r ≠ 220 → V2 r = V1 r) → dBst (dRm V) (V2 218) (V2 219) (V2 220) q → dco (dRm V) q < β.1 → lv_has ls 5 [(3, .int (dco (dRm V) q)), (0, .ref (ad 114))] → W p l e (y_rm xDim) s m [Value.ref (ad 114)].toArray below meth c H locs 0 0 Q (F0 m 53 ls []) := by
          intro H locs cw V2 ls hs hc hk2 hb2 hlt hl
          have loopC : ∀ (d k : Nat), k + d = n → ∀ (H : Heap) (locs : List Loc) (cw : va_W) (V3 : Nat → Nat → Int32) (ls : Array Slot), xs D s A H locs cw tys → xc 114 12 213 224 ad cI cw0 V3 vs' cw → (∀ r, r < 221 → V3 r = V2 r) → (∀ j, j < k → V3 221 j = V2 218 j ∧ V3 222 j = V2 219 j ∧ V3 223 j = V2 220 j) → (∀ j, k ≤ j → V3 221 j = V2 221 j ∧ V3 222 j = V2 222 j ∧ V3 223 j = V2 223 j) → lv_has ls 5 [(4, .int (nI k)), (1, .int (dco (dRm V) q)), (0, .ref (ad 114))] → W p l e (y_rm xDim) s m [Value.ref (ad 114)].toArray below meth c H locs 0 0 Q (F0 m 58 ls []) := by
            intro d
            induction d with
            | zero =>
              intro k hk H locs cw V3 ls hs hc hr h1 h2 hl
              refine lv_iload (i := 4) hF.1 hF.2.1 (y_dcd_ok (by decide +kernel)) (lv_at hl 0 rfl) ?_
              refine lv_aload_n (k := 0) hF.1 hF.2.1 (y_dcd_ok (by decide +kernel)) rfl (lv_at hl 2 rfl) ?_
              refine xgo (n := 9003) (index := 850) hF hs hc rfl 133 (by decide) (by decide +kernel) hv.h133 (by decide +kernel) ?_
              refine lv_icmp_ge (off := 51) (tgt := 115) hF.1 hF.2.1 (y_dcd_ok (by decide +kernel)) (by decide) (fun hq => ?_) (fun hq => ?_)
              · have hup : dup (dRm V) β q = (dco (dRm V) q, q) := if_pos hlt
                refine next _ _ cw V3 (dco (dRm V) q, q) ls hs ⟨hc, fun r h3 h4 => ?_, dBst_eq (fun j hj => h1 j (by have hj : j < q.length := hj; omega)) hb2, fun i hi => ?_⟩ (by rw [hr 218 (by decide), hk2 218 (by decide) (by decide)]) hup.symm hco.1 (lv_sub hl [1, 2] rfl)
                · rw [hr r (by omega), hk2 r (by omega) (by omega)]
                  exact hJ.r r h3 h4
                · have := h2 i (by omega)
                  rw [this.1, this.2.1, this.2.2, hk2 221 (by decide) (by decide), hk2 222 (by decide) (by decide), hk2 223 (by decide) (by decide)]
                  exact hJ.b i hi
              · exact absurd ((dni_le (by omega) (by omega)).mpr (by omega)) hq
            | succ d ihC =>
              intro k hk H locs cw V3 ls hs hc hr h1 h2 hl
              have hk7 : k < 7 := by omega
              refine lv_iload (i := 4) hF.1 hF.2.1 (y_dcd_ok (by decide +kernel)) (lv_at hl 0 rfl) ?_
              refine lv_aload_n (k := 0) hF.1 hF.2.1 (y_dcd_ok (by decide +kernel)) rfl (lv_at hl 2 rfl) ?_
              refine xgo (n := 9003) (index := 850) hF hs hc rfl 133 (by decide) (by decide +kernel) hv.h133 (by decide +kernel) ?_
              refine lv_icmp_ge (off := 51) (tgt := 115) hF.1 hF.2.1 (y_dcd_ok (by decide +kernel)) (by decide) (fun hq => ?_) (fun hq => ?_)
              · exact absurd ((dni_le (by omega) (by omega)).mp hq) (by omega)
              refine lv_aload_n (k := 0) hF.1 hF.2.1 (y_dcd_ok (by decide +kernel)) rfl (lv_at hl 2 rfl) ?_
              refine xgo (n := 9013) (index := 331) hF hs hc rfl 143 (by decide) (by decide +kernel) hv.h143 (by decide +kernel) ?_
              refine lv_iload (i := 4) hF.1 hF.2.1 (y_dcd_ok (by decide +kernel)) (lv_at hl 0 rfl) ?_
              refine lv_aload_n (k := 0) hF.1 hF.2.1 (y_dcd_ok (by decide +kernel)) rfl (lv_at hl 2 rfl) ?_
              refine xgo (n := 9009) (index := 322) hF hs hc rfl 139 (by decide) (by decide +kernel) hv.h139 (by decide +kernel) ?_
              refine lv_iload (i := 4) hF.1 hF.2.1 (y_dcd_ok (by decide +kernel)) (lv_at hl 0 rfl) ?_
              refine xaldN (r := 218) hF hs hT hc (by decide) (by decide) hk7 (by decide +kernel) ?_
              refine xastN (r := 221) hF hs hT (by decide) hc (by decide) (by decide) hk7 (by decide +kernel) (fun H locs cw hs hc => ?_)
              refine lv_aload_n (k := 0) hF.1 hF.2.1 (y_dcd_ok (by decide +kernel)) rfl (lv_at hl 2 rfl) ?_
              refine xgo (n := 9014) (index := 334) hF hs hc rfl 144 (by decide) (by decide +kernel) hv.h144 (by decide +kernel) ?_
              refine lv_iload (i := 4) hF.1 hF.2.1 (y_dcd_ok (by decide +kernel)) (lv_at hl 0 rfl) ?_
              refine lv_aload_n (k := 0) hF.1 hF.2.1 (y_dcd_ok (by decide +kernel)) rfl (lv_at hl 2 rfl) ?_
              refine xgo (n := 9010) (index := 325) hF hs hc rfl 140 (by decide) (by decide +kernel) hv.h140 (by decide +kernel) ?_
              refine lv_iload (i := 4) hF.1 hF.2.1 (y_dcd_ok (by decide +kernel)) (lv_at hl 0 rfl) ?_
              refine xaldN (r := 219) hF hs hT hc (by decide) (by decide) hk7 (by decide +kernel) ?_
              refine xastN (r := 222) hF hs hT (by decide) hc (by decide) (by decide) hk7 (by decide +kernel) (fun H locs cw hs hc => ?_)
              refine lv_aload_n (k := 0) hF.1 hF.2.1 (y_dcd_ok (by decide +kernel)) rfl (lv_at hl 2 rfl) ?_
              refine xgo (n := 9015) (index := 337) hF hs hc rfl 145 (by decide) (by decide +kernel) hv.h145 (by decide +kernel) ?_
              refine lv_iload (i := 4) hF.1 hF.2.1 (y_dcd_ok (by decide +kernel)) (lv_at hl 0 rfl) ?_
              refine lv_aload_n (k := 0) hF.1 hF.2.1 (y_dcd_ok (by decide +kernel)) rfl (lv_at hl 2 rfl) ?_
              refine xgo (n := 9011) (index := 328) hF hs hc rfl 141 (by decide) (by decide +kernel) hv.h141 (by decide +kernel) ?_
              refine lv_iload (i := 4) hF.1 hF.2.1 (y_dcd_ok (by decide +kernel)) (lv_at hl 0 rfl) ?_
              refine xaldN (r := 220) hF hs hT hc (by decide) (by decide) hk7 (by decide +kernel) ?_
              refine xastN (r := 223) hF hs hT (by decide) hc (by decide) (by decide) hk7 (by decide +kernel) (fun H locs cw hs hc => ?_)
              refine lv_iinc (nL := 5) (i := 4) (n := 1) (k := 0) (v := nI (k + 1)) hF.1 hF.2.1 (y_dcd_ok (by decide +kernel)) hl rfl (dni_add (by omega)) (by decide) rfl (fun ls hl => ?_)
              refine lv_goto (off := (-54)) (tgt := 58) hF.1 hF.2.1 (y_dcd_ok (by decide +kernel)) (by decide) ?_
              refine ihC (k + 1) (by omega) _ _ cw _ ls hs hc (fun r hr' => ?_) (fun j hj => ?_) (fun j hj => ?_) hl
              · rw [xup_n _ _ _ (by omega), xup_n _ _ _ (by omega), xup_n _ _ _ (by omega)]
                exact hr r hr'
              · have r8 := hr 218 (by decide)
                have r9 := hr 219 (by decide)
                have r0 := hr 220 (by decide)
                by_cases e : j = k
                · subst e
                  simp [xup, upd, r8, r9, r0]
                · have := h1 j (by omega)
                  simp [xup, upd, e, this]
              · have e : j ≠ k := by omega
                have := h2 j (by omega)
                simp [xup, upd, e, this]
          refine lv_iload_n (k := 3) hF.1 hF.2.1 (y_dcd_ok (by decide +kernel)) rfl (lv_at hl 0 rfl) ?_
          refine lv_istore_n (nL := 5) (k := 1) hF.1 hF.2.1 (y_dcd_ok (by decide +kernel)) rfl hl (by decide) rfl (fun ls hl => ?_)
          refine lv_iconst (n := 0) (v := 0) hF.1 hF.2.1 (y_dcd_ok (by decide +kernel)) (by decide) ?_
          refine lv_istore (nL := 5) (i := 4) hF.1 hF.2.1 (y_dcd_ok (by decide +kernel)) hl (by decide) rfl (fun ls hl => ?_)
          exact loopC n 0 (by omega) _ _ cw V2 ls hs hc (fun _ _ => rfl) (fun j hj => absurd hj (Nat.not_lt_zero _)) (fun j _ => ⟨rfl, rfl, rfl⟩) (lv_sub hl [0, 1, 3] rfl)
        refine lv_iload_n (k := 2) hF.1 hF.2.1 (y_dcd_ok (by decide +kernel)) rfl (lv_at hl 0 rfl) ?_
        refine lv_if_eq (off := 87) (tgt := 123) hF.1 hF.2.1 (y_dcd_ok (by decide +kernel)) (by decide) (fun hq => ?_) (fun hq => ?_)
        · exact absurd hq (by decide)
        refine lv_aload_n (k := 0) hF.1 hF.2.1 (y_dcd_ok (by decide +kernel)) rfl (lv_at hl 2 rfl) ?_
        refine xcallV (As := []) (rest := []) (n := 12228) (j := 859) hF hs hl.1 hc.hO (cm := xCos) yo_yr199 rfl (by decide) (by decide +kernel) (show _ = some 0 from by decide +kernel) (by decide +kernel) ⟨by decide, by decide⟩ ⟨rfl, rfl⟩ (Nat.le_of_ble_eq_true rfl) ⟨Nat.zero_le _, Nat.zero_le _⟩ (dM_cos hn hv hT hc hql hq7 hO) (fun H1 locs1 cw2 tys1 rv hs hX => ?_)
        obtain ⟨e1, e2, V2, hc2, hk2, hb2⟩ := hX
        subst e1
        rw [e2] at hs
        rw [hRm] at hb2
        rw [hRm]
        show W _ _ _ _ _ _ _ _ _ _ _ _ _ _ _ (F0 m 43 ls [.int (dco (dRm V) q)])
        refine lv_istore_n (nL := 5) (k := 3) hF.1 hF.2.1 (y_dcd_ok (by decide +kernel)) rfl hl (by decide) rfl (fun ls hl => ?_)
        refine lv_iload_n (k := 1) hF.1 hF.2.1 (y_dcd_ok (by decide +kernel)) rfl (lv_at hl 2 rfl) ?_
        refine lv_if_lt (off := 8) (tgt := 53) hF.1 hF.2.1 (y_dcd_ok (by decide +kernel)) (by decide) (fun hq => ?_) (fun hq => ?_)
        · have hβ0 : β = dβ0 := by
            rcases hlst with ⟨h1, h2⟩ | ⟨_, h2⟩
            · rw [h1] at hq
              have := Int32.lt_iff_toInt_lt.mp hq
              have e0 : (0 : Int32).toInt = 0 := by decide
              omega
            · exact h2
          refine take _ _ cw2 V2 ls hs hc2 hk2 hb2 ?_ (lv_sub hl [0, 3] rfl)
          rw [hβ0]
          refine Int32.lt_iff_toInt_lt.mpr ?_
          have : (dβ0.1).toInt = 2147483647 := by decide
          omega
        have hβ : lst = β.1 ∧ 0 ≤ β.1.toInt := by
          rcases hlst with h | ⟨h1, _⟩
          · exact h
          · rw [h1] at hq
            exact absurd (by decide) hq
        obtain ⟨rfl, hβ0⟩ := hβ
        refine lv_iload_n (k := 3) hF.1 hF.2.1 (y_dcd_ok (by decide +kernel)) rfl (lv_at hl 0 rfl) ?_
        refine lv_iload_n (k := 1) hF.1 hF.2.1 (y_dcd_ok (by decide +kernel)) rfl (lv_at hl 2 rfl) ?_
        refine lv_icmp_ge (off := 65) (tgt := 115) hF.1 hF.2.1 (y_dcd_ok (by decide +kernel)) (by decide) (fun hq => ?_) (fun hq => ?_)
        · have hup : dup (dRm V) β q = β := if_neg (fun z => by
            have h1 := Int32.lt_iff_toInt_lt.mp z
            have h2 := Int32.le_iff_toInt_le.mp hq
            omega)
          exact next _ _ cw2 V2 β ls hs ⟨hc2, fun r h1 h2 => by rw [hk2 r (by omega) (by omega)]; exact hJ.r r h1 h2, by rw [hk2 221 (by decide) (by decide), hk2 222 (by decide) (by decide), hk2 223 (by decide) (by decide)]; exact hJ.k, by rw [hk2 221 (by decide) (by decide), hk2 222 (by decide) (by decide), hk2 223 (by decide) (by decide)]; exact hJ.b⟩ (hk2 218 (by decide) (by decide)) hup.symm hβ0 (lv_sub hl [2, 3] rfl)
        · exact take _ _ cw2 V2 ls hs hc2 hk2 hb2 (Int32.not_le.mp hq) (lv_sub hl [0, 3] rfl)
      | cons q' rest ih =>
        intro q β hmem hch hfin lst hlst H locs cw V1 ls hs hJ hH hl
        have hc := hJ.c
        obtain ⟨hql, hq7⟩ := hmem q List.mem_cons_self
        have hRm : dRm V1 = dRm V := by
          unfold dRm
          rw [hJ.r 213 (by decide) (by decide), hJ.r 214 (by decide) (by decide), hJ.r 215 (by decide) (by decide), hJ.r 216 (by decide) (by decide), hJ.r 217 (by decide) (by decide)]
        have hO : dOrd (V1 218) q := dOrd_row fun j hj => (hH j (by omega)).1
        have hco := dco_in hB q (by omega)
        -- behind the comparison
        have next : ∀ (H : Heap) (locs : List Loc) (cw : va_W) (V3 : Nat → Nat → Int32) (β' : Int32 × List Nat) (ls : Array Slot), xs D s A H locs cw tys → dJ ad cI cw0 n vs' V V3 β' cw → V3 218 = V1 218 → β' = dup (dRm V) β q → 0 ≤ β'.1.toInt → lv_has ls 5 [(1, .int β'.1), (0, .ref (ad 114))] → W p l e (y_rm xDim) s m [Value.ref (ad 114)].toArray below meth c H locs 0 0 Q (F0 m 115 ls []) := by
          intro H locs cw V3 β' ls hs hJ hV3 hβ hβ0 hl
          have hc := hJ.c
          have hH3 : dHas (V3 218) n (drow q) := by rw [hV3]; exact hH
          refine lv_aload_n (k := 0) hF.1 hF.2.1 (y_dcd_ok (by decide +kernel)) rfl (lv_at hl 1 rfl) ?_
          refine xcallV (As := []) (rest := []) (n := 12235) (j := 862) hF hs hl.1 hc.hO (cm := xNex) yo_ym109 rfl (by decide) (by decide +kernel) (show _ = some 0 from by decide +kernel) (by decide +kernel) ⟨by decide, by decide⟩ ⟨rfl, rfl⟩ (Nat.le_of_ble_eq_true rfl) ⟨Nat.zero_le _, Nat.zero_le _⟩ (dM_nex hn hv hT hc hH3) (fun H1 locs1 cw1 tys1 rv hs hX => ?_)
          obtain ⟨e2, V4, hc4, hk4, hcase⟩ := hX
          rw [e2] at hs
          have hJ4 : dJ ad cI cw0 n vs' V V4 β' cw1 := ⟨hc4, fun q h1 h2 => by rw [hk4 q (by omega)]; exact hJ.r q h1 h2, by rw [hk4 221 (by decide), hk4 222 (by decide), hk4 223 (by decide)]; exact hJ.k, by rw [hk4 221 (by decide), hk4 222 (by decide), hk4 223 (by decide)]; exact hJ.b⟩
          rcases hcase with ⟨e1, hnx⟩ | ⟨e1, F', hnx, hF'⟩
          · obtain ⟨hch, _⟩ := z_and hch
            have hch : (match dnx n (drow q) with
              | none => false
              | some F => dsm F (drow q') n) = true := hch
            rw [hnx] at hch
            cases hch
          · subst e1
            obtain ⟨hch, hch2⟩ := z_and hch
            have hch : (match dnx n (drow q) with
              | none => false
              | some F => dsm F (drow q') n) = true := hch
            rw [hnx] at hch
            have hch : dsm F' (drow q') n = true := hch
            show W _ _ _ _ _ _ _ _ _ _ _ _ _ _ _ (F0 m 119 ls [.int 1])
            refine lv_istore_n (nL := 5) (k := 2) hF.1 hF.2.1 (y_dcd_ok (by decide +kernel)) rfl hl (by decide) rfl (fun ls hl => ?_)
            refine lv_goto (off := (-85)) (tgt := 35) hF.1 hF.2.1 (y_dcd_ok (by decide +kernel)) (by decide) ?_
            refine ih q' β' (fun x hx => hmem x (List.mem_cons_of_mem _ hx)) hch2 (by rw [← hfin, hβ]; rfl) β'.1 (Or.inl ⟨rfl, hβ0⟩) _ _ cw1 V4 ls hs hJ4 (fun j hj => ?_) hl
            rw [← dsm_ok hch j hj]
            exact hF' j hj
        -- this order is taken
        have take : ∀ (H : Heap) (locs : List Loc) (cw : va_W) (V2 : Nat → Nat → Int32) (ls : Array Slot), xs D s A H locs cw tys → xc 114 12 213 224 ad cI cw0 V2 vs' cw → (∀ r, r ≠ 219 → r ≠ 220 → V2 r = V1 r) → dBst (dRm V) (V2 218) (V2 219) (V2 220) q → dco (dRm V) q < β.1 → lv_has ls 5 [(3, .int (dco (dRm V) q)), (0, .ref (ad 114))] → W p l e (y_rm xDim) s m [Value.ref (ad 114)].toArray below meth c H locs 0 0 Q (F0 m 53 ls []) := by
          intro H locs cw V2 ls hs hc hk2 hb2 hlt hl
          have loopC : ∀ (d k : Nat), k + d = n → ∀ (H : Heap) (locs : List Loc) (cw : va_W) (V3 : Nat → Nat → Int32) (ls : Array Slot), xs D s A H locs cw tys → xc 114 12 213 224 ad cI cw0 V3 vs' cw → (∀ r, r < 221 → V3 r = V2 r) → (∀ j, j < k → V3 221 j = V2 218 j ∧ V3 222 j = V2 219 j ∧ V3 223 j = V2 220 j) → (∀ j, k ≤ j → V3 221 j = V2 221 j ∧ V3 222 j = V2 222 j ∧ V3 223 j = V2 223 j) → lv_has ls 5 [(4, .int (nI k)), (1, .int (dco (dRm V) q)), (0, .ref (ad 114))] → W p l e (y_rm xDim) s m [Value.ref (ad 114)].toArray below meth c H locs 0 0 Q (F0 m 58 ls []) := by
            intro d
            induction d with
            | zero =>
              intro k hk H locs cw V3 ls hs hc hr h1 h2 hl
              refine lv_iload (i := 4) hF.1 hF.2.1 (y_dcd_ok (by decide +kernel)) (lv_at hl 0 rfl) ?_
              refine lv_aload_n (k := 0) hF.1 hF.2.1 (y_dcd_ok (by decide +kernel)) rfl (lv_at hl 2 rfl) ?_
              refine xgo (n := 9003) (index := 850) hF hs hc rfl 133 (by decide) (by decide +kernel) hv.h133 (by decide +kernel) ?_
              refine lv_icmp_ge (off := 51) (tgt := 115) hF.1 hF.2.1 (y_dcd_ok (by decide +kernel)) (by decide) (fun hq => ?_) (fun hq => ?_)
              · have hup : dup (dRm V) β q = (dco (dRm V) q, q) := if_pos hlt
                refine next _ _ cw V3 (dco (dRm V) q, q) ls hs ⟨hc, fun r h3 h4 => ?_, dBst_eq (fun j hj => h1 j (by have hj : j < q.length := hj; omega)) hb2, fun i hi => ?_⟩ (by rw [hr 218 (by decide), hk2 218 (by decide) (by decide)]) hup.symm hco.1 (lv_sub hl [1, 2] rfl)
                · rw [hr r (by omega), hk2 r (by omega) (by omega)]
                  exact hJ.r r h3 h4
                · have := h2 i (by omega)
                  rw [this.1, this.2.1, this.2.2, hk2 221 (by decide) (by decide), hk2 222 (by decide) (by decide), hk2 223 (by decide) (by decide)]
                  exact hJ.b i hi
              · exact absurd ((dni_le (by omega) (by omega)).mpr (by omega)) hq
            | succ d ihC =>
              intro k hk H locs cw V3 ls hs hc hr h1 h2 hl
              have hk7 : k < 7 := by omega
              refine lv_iload (i := 4) hF.1 hF.2.1 (y_dcd_ok (by decide +kernel)) (lv_at hl 0 rfl) ?_
              refine lv_aload_n (k := 0) hF.1 hF.2.1 (y_dcd_ok (by decide +kernel)) rfl (lv_at hl 2 rfl) ?_
              refine xgo (n := 9003) (index := 850) hF hs hc rfl 133 (by decide) (by decide +kernel) hv.h133 (by decide +kernel) ?_
              refine lv_icmp_ge (off := 51) (tgt := 115) hF.1 hF.2.1 (y_dcd_ok (by decide +kernel)) (by decide) (fun hq => ?_) (fun hq => ?_)
              · exact absurd ((dni_le (by omega) (by omega)).mp hq) (by omega)
              refine lv_aload_n (k := 0) hF.1 hF.2.1 (y_dcd_ok (by decide +kernel)) rfl (lv_at hl 2 rfl) ?_
              refine xgo (n := 9013) (index := 331) hF hs hc rfl 143 (by decide) (by decide +kernel) hv.h143 (by decide +kernel) ?_
              refine lv_iload (i := 4) hF.1 hF.2.1 (y_dcd_ok (by decide +kernel)) (lv_at hl 0 rfl) ?_
              refine lv_aload_n (k := 0) hF.1 hF.2.1 (y_dcd_ok (by decide +kernel)) rfl (lv_at hl 2 rfl) ?_
              refine xgo (n := 9009) (index := 322) hF hs hc rfl 139 (by decide) (by decide +kernel) hv.h139 (by decide +kernel) ?_
              refine lv_iload (i := 4) hF.1 hF.2.1 (y_dcd_ok (by decide +kernel)) (lv_at hl 0 rfl) ?_
              refine xaldN (r := 218) hF hs hT hc (by decide) (by decide) hk7 (by decide +kernel) ?_
              refine xastN (r := 221) hF hs hT (by decide) hc (by decide) (by decide) hk7 (by decide +kernel) (fun H locs cw hs hc => ?_)
              refine lv_aload_n (k := 0) hF.1 hF.2.1 (y_dcd_ok (by decide +kernel)) rfl (lv_at hl 2 rfl) ?_
              refine xgo (n := 9014) (index := 334) hF hs hc rfl 144 (by decide) (by decide +kernel) hv.h144 (by decide +kernel) ?_
              refine lv_iload (i := 4) hF.1 hF.2.1 (y_dcd_ok (by decide +kernel)) (lv_at hl 0 rfl) ?_
              refine lv_aload_n (k := 0) hF.1 hF.2.1 (y_dcd_ok (by decide +kernel)) rfl (lv_at hl 2 rfl) ?_
              refine xgo (n := 9010) (index := 325) hF hs hc rfl 140 (by decide) (by decide +kernel) hv.h140 (by decide +kernel) ?_
              refine lv_iload (i := 4) hF.1 hF.2.1 (y_dcd_ok (by decide +kernel)) (lv_at hl 0 rfl) ?_
              refine xaldN (r := 219) hF hs hT hc (by decide) (by decide) hk7 (by decide +kernel) ?_
              refine xastN (r := 222) hF hs hT (by decide) hc (by decide) (by decide) hk7 (by decide +kernel) (fun H locs cw hs hc => ?_)
              refine lv_aload_n (k := 0) hF.1 hF.2.1 (y_dcd_ok (by decide +kernel)) rfl (lv_at hl 2 rfl) ?_
              refine xgo (n := 9015) (index := 337) hF hs hc rfl 145 (by decide) (by decide +kernel) hv.h145 (by decide +kernel) ?_
              refine lv_iload (i := 4) hF.1 hF.2.1 (y_dcd_ok (by decide +kernel)) (lv_at hl 0 rfl) ?_
              refine lv_aload_n (k := 0) hF.1 hF.2.1 (y_dcd_ok (by decide +kernel)) rfl (lv_at hl 2 rfl) ?_
              refine xgo (n := 9011) (index := 328) hF hs hc rfl 141 (by decide) (by decide +kernel) hv.h141 (by decide +kernel) ?_
              refine lv_iload (i := 4) hF.1 hF.2.1 (y_dcd_ok (by decide +kernel)) (lv_at hl 0 rfl) ?_
              refine xaldN (r := 220) hF hs hT hc (by decide) (by decide) hk7 (by decide +kernel) ?_
              refine xastN (r := 223) hF hs hT (by decide) hc (by decide) (by decide) hk7 (by decide +kernel) (fun H locs cw hs hc => ?_)
              refine lv_iinc (nL := 5) (i := 4) (n := 1) (k := 0) (v := nI (k + 1)) hF.1 hF.2.1 (y_dcd_ok (by decide +kernel)) hl rfl (dni_add (by omega)) (by decide) rfl (fun ls hl => ?_)
              refine lv_goto (off := (-54)) (tgt := 58) hF.1 hF.2.1 (y_dcd_ok (by decide +kernel)) (by decide) ?_
              refine ihC (k + 1) (by omega) _ _ cw _ ls hs hc (fun r hr' => ?_) (fun j hj => ?_) (fun j hj => ?_) hl
              · rw [xup_n _ _ _ (by omega), xup_n _ _ _ (by omega), xup_n _ _ _ (by omega)]
                exact hr r hr'
              · have r8 := hr 218 (by decide)
                have r9 := hr 219 (by decide)
                have r0 := hr 220 (by decide)
                by_cases e : j = k
                · subst e
                  simp [xup, upd, r8, r9, r0]
                · have := h1 j (by omega)
                  simp [xup, upd, e, this]
              · have e : j ≠ k := by omega
                have := h2 j (by omega)
                simp [xup, upd, e, this]
          refine lv_iload_n (k := 3) hF.1 hF.2.1 (y_dcd_ok (by decide +kernel)) rfl (lv_at hl 0 rfl) ?_
          refine lv_istore_n (nL := 5) (k := 1) hF.1 hF.2.1 (y_dcd_ok (by decide +kernel)) rfl hl (by decide) rfl (fun ls hl => ?_)
          refine lv_iconst (n := 0) (v := 0) hF.1 hF.2.1 (y_dcd_ok (by decide +kernel)) (by decide) ?_
          refine lv_istore (nL := 5) (i := 4) hF.1 hF.2.1 (y_dcd_ok (by decide +kernel)) hl (by decide) rfl (fun ls hl => ?_)
          exact loopC n 0 (by omega) _ _ cw V2 ls hs hc (fun _ _ => rfl) (fun j hj => absurd hj (Nat.not_lt_zero _)) (fun j _ => ⟨rfl, rfl, rfl⟩) (lv_sub hl [0, 1, 3] rfl)
        refine lv_iload_n (k := 2) hF.1 hF.2.1 (y_dcd_ok (by decide +kernel)) rfl (lv_at hl 0 rfl) ?_
        refine lv_if_eq (off := 87) (tgt := 123) hF.1 hF.2.1 (y_dcd_ok (by decide +kernel)) (by decide) (fun hq => ?_) (fun hq => ?_)
        · exact absurd hq (by decide)
        refine lv_aload_n (k := 0) hF.1 hF.2.1 (y_dcd_ok (by decide +kernel)) rfl (lv_at hl 2 rfl) ?_
        refine xcallV (As := []) (rest := []) (n := 12228) (j := 859) hF hs hl.1 hc.hO (cm := xCos) yo_yr199 rfl (by decide) (by decide +kernel) (show _ = some 0 from by decide +kernel) (by decide +kernel) ⟨by decide, by decide⟩ ⟨rfl, rfl⟩ (Nat.le_of_ble_eq_true rfl) ⟨Nat.zero_le _, Nat.zero_le _⟩ (dM_cos hn hv hT hc hql hq7 hO) (fun H1 locs1 cw2 tys1 rv hs hX => ?_)
        obtain ⟨e1, e2, V2, hc2, hk2, hb2⟩ := hX
        subst e1
        rw [e2] at hs
        rw [hRm] at hb2
        rw [hRm]
        show W _ _ _ _ _ _ _ _ _ _ _ _ _ _ _ (F0 m 43 ls [.int (dco (dRm V) q)])
        refine lv_istore_n (nL := 5) (k := 3) hF.1 hF.2.1 (y_dcd_ok (by decide +kernel)) rfl hl (by decide) rfl (fun ls hl => ?_)
        refine lv_iload_n (k := 1) hF.1 hF.2.1 (y_dcd_ok (by decide +kernel)) rfl (lv_at hl 2 rfl) ?_
        refine lv_if_lt (off := 8) (tgt := 53) hF.1 hF.2.1 (y_dcd_ok (by decide +kernel)) (by decide) (fun hq => ?_) (fun hq => ?_)
        · have hβ0 : β = dβ0 := by
            rcases hlst with ⟨h1, h2⟩ | ⟨_, h2⟩
            · rw [h1] at hq
              have := Int32.lt_iff_toInt_lt.mp hq
              have e0 : (0 : Int32).toInt = 0 := by decide
              omega
            · exact h2
          refine take _ _ cw2 V2 ls hs hc2 hk2 hb2 ?_ (lv_sub hl [0, 3] rfl)
          rw [hβ0]
          refine Int32.lt_iff_toInt_lt.mpr ?_
          have : (dβ0.1).toInt = 2147483647 := by decide
          omega
        have hβ : lst = β.1 ∧ 0 ≤ β.1.toInt := by
          rcases hlst with h | ⟨h1, _⟩
          · exact h
          · rw [h1] at hq
            exact absurd (by decide) hq
        obtain ⟨rfl, hβ0⟩ := hβ
        refine lv_iload_n (k := 3) hF.1 hF.2.1 (y_dcd_ok (by decide +kernel)) rfl (lv_at hl 0 rfl) ?_
        refine lv_iload_n (k := 1) hF.1 hF.2.1 (y_dcd_ok (by decide +kernel)) rfl (lv_at hl 2 rfl) ?_
        refine lv_icmp_ge (off := 65) (tgt := 115) hF.1 hF.2.1 (y_dcd_ok (by decide +kernel)) (by decide) (fun hq => ?_) (fun hq => ?_)
        · have hup : dup (dRm V) β q = β := if_neg (fun z => by
            have h1 := Int32.lt_iff_toInt_lt.mp z
            have h2 := Int32.le_iff_toInt_le.mp hq
            omega)
          exact next _ _ cw2 V2 β ls hs ⟨hc2, fun r h1 h2 => by rw [hk2 r (by omega) (by omega)]; exact hJ.r r h1 h2, by rw [hk2 221 (by decide) (by decide), hk2 222 (by decide) (by decide), hk2 223 (by decide) (by decide)]; exact hJ.k, by rw [hk2 221 (by decide) (by decide), hk2 222 (by decide) (by decide), hk2 223 (by decide) (by decide)]; exact hJ.b⟩ (hk2 218 (by decide) (by decide)) hup.symm hβ0 (lv_sub hl [2, 3] rfl)
        · exact take _ _ cw2 V2 ls hs hc2 hk2 hb2 (Int32.not_le.mp hq) (lv_sub hl [0, 3] rfl)
    refine lv_iconst (n := -1) (v := -1) hF.1 hF.2.1 (y_dcd_ok (by decide +kernel)) (by decide) ?_
    refine lv_istore_n (nL := 5) (k := 1) hF.1 hF.2.1 (y_dcd_ok (by decide +kernel)) rfl hl (by decide) rfl (fun ls hl => ?_)
    refine lv_iconst (n := 1) (v := 1) hF.1 hF.2.1 (y_dcd_ok (by decide +kernel)) (by decide) ?_
    refine lv_istore_n (nL := 5) (k := 2) hF.1 hF.2.1 (y_dcd_ok (by decide +kernel)) rfl hl (by decide) rfl (fun ls hl => ?_)
    have hck := dchk_le hn
    have hmm := dex_mem (n := n) n [] (fun t ht => by cases ht)
    unfold dchk at hck
    have hfin : (dex n n []).foldl (dup (dRm V)) dβ0 = dtr (dRm V) n n [] dβ0 := rfl
    cases hdx : dex n n [] with
    | nil =>
      rw [hdx] at hck
      cases hck
    | cons q0 rest =>
      rw [hdx] at hck hmm hfin
      obtain ⟨h1, h2⟩ := z_and hck
      refine loopB rest q0 dβ0 (fun x hx => ?_) h2 hfin (-1) (Or.inr ⟨rfl, rfl⟩) _ _ cw V1 ls hs ⟨hc, fun r h3 h4 => hk r (by omega), trivial, fun i _ => by rw [hk 221 (by decide), hk 222 (by decide), hk 223 (by decide)]; exact ⟨rfl, rfl, rfl⟩⟩ (fun j hj => ?_) hl
      · have := hmm x hx
        simp only [List.length_nil] at this
        exact ⟨by omega, fun t ht => by have := this.2 t ht; omega⟩
      · have := dsm_ok h1 j hj
        rw [this]
        exact ⟨hid j hj, by show j < 7; omega⟩
  -- the first loop
  have loopA : ∀ (d k : Nat), k + d = n → ∀ (H : Heap) (locs : List Loc) (cw : va_W) (V1 : Nat → Nat → Int32) (ls : Array Slot), xs D s A H locs cw tys → xc 114 12 213 224 ad cI cw0 V1 vs cw → (∀ r, r ≠ 218 → V1 r = V r) → (∀ j, j < k → V1 218 j = nI j) → lv_has ls 5 [(1, .int (nI k)), (0, .ref (ad 114))] → W p l e (y_rm xDim) s m [Value.ref (ad 114)].toArray below meth c H locs 0 0 Q (F0 m 2 ls []) := by
    intro d
    induction d with
    | zero =>
      intro k hk H locs cw V1 ls hs hc hr h1 hl
      refine lv_iload_n (k := 1) hF.1 hF.2.1 (y_dcd_ok (by decide +kernel)) rfl (lv_at hl 0 rfl) ?_
      refine lv_aload_n (k := 0) hF.1 hF.2.1 (y_dcd_ok (by decide +kernel)) rfl (lv_at hl 1 rfl) ?_
      refine xgo (n := 9003) (index := 850) hF hs hc rfl 133 (by decide) (by decide +kernel) hv.h133 (by decide +kernel) ?_
      refine lv_icmp_ge (off := 16) (tgt := 23) hF.1 hF.2.1 (y_dcd_ok (by decide +kernel)) (by decide) (fun hq => ?_) (fun hq => ?_)
      · exact mid _ _ cw V1 ls hs hc hr (fun j hj => h1 j (by omega)) (lv_sub hl [1] rfl)
      · exact absurd ((dni_le (by omega) (by omega)).mpr (by omega)) hq
    | succ d ih =>
      intro k hk H locs cw V1 ls hs hc hr h1 hl
      have hk7 : k < 7 := by omega
      refine lv_iload_n (k := 1) hF.1 hF.2.1 (y_dcd_ok (by decide +kernel)) rfl (lv_at hl 0 rfl) ?_
      refine lv_aload_n (k := 0) hF.1 hF.2.1 (y_dcd_ok (by decide +kernel)) rfl (lv_at hl 1 rfl) ?_
      refine xgo (n := 9003) (index := 850) hF hs hc rfl 133 (by decide) (by decide +kernel) hv.h133 (by decide +kernel) ?_
      refine lv_icmp_ge (off := 16) (tgt := 23) hF.1 hF.2.1 (y_dcd_ok (by decide +kernel)) (by decide) (fun hq => ?_) (fun hq => ?_)
      · exact absurd ((dni_le (by omega) (by omega)).mp hq) (by omega)
      refine lv_aload_n (k := 0) hF.1 hF.2.1 (y_dcd_ok (by decide +kernel)) rfl (lv_at hl 1 rfl) ?_
      refine xgo (n := 9009) (index := 322) hF hs hc rfl 139 (by decide) (by decide +kernel) hv.h139 (by decide +kernel) ?_
      refine lv_iload_n (k := 1) hF.1 hF.2.1 (y_dcd_ok (by decide +kernel)) rfl (lv_at hl 0 rfl) ?_
      refine lv_iload_n (k := 1) hF.1 hF.2.1 (y_dcd_ok (by decide +kernel)) rfl (lv_at hl 0 rfl) ?_
      refine xastN (r := 218) hF hs hT (by decide) hc (by decide) (by decide) hk7 (by decide +kernel) (fun H locs cw hs hc => ?_)
      refine lv_iinc (nL := 5) (i := 1) (n := 1) (k := 0) (v := nI (k + 1)) hF.1 hF.2.1 (y_dcd_ok (by decide +kernel)) hl rfl (dni_add (by omega)) (by decide) rfl (fun ls hl => ?_)
      refine lv_goto (off := (-18)) (tgt := 2) hF.1 hF.2.1 (y_dcd_ok (by decide +kernel)) (by decide) ?_
      refine ih (k + 1) (by omega) _ _ cw _ ls hs hc (fun r hr' => ?_) (fun j hj => ?_) hl
      · rw [xup_n _ _ _ hr']
        exact hr r hr'
      · rw [xup_s]
        by_cases e : j = k
        · subst e
          simp [upd]
        · have := h1 j (by omega)
          simp [upd, e, this]
  refine lv_iconst (n := 0) (v := 0) hF.1 hF.2.1 (y_dcd_ok (by decide +kernel)) (by decide) ?_
  refine lv_istore_n (nL := 5) (k := 1) hF.1 hF.2.1 (y_dcd_ok (by decide +kernel)) rfl hl (by decide) rfl (fun ls hl => ?_)
  exact loopA n 0 (by omega) _ _ cw V ls hs hc (fun _ _ => rfl) (fun j hj => absurd hj (Nat.not_lt_zero _)) hl
end XF
