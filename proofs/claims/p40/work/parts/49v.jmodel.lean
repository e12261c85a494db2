-- journeys of the reference: fareOf, offer, goFrom
def kI : List (Nat × Nat) := [(194, 8), (195, 8), (197, 12), (198, 96), (199, 96), (200, 96), (201, 480), (203, 400), (204, 400), (205, 400)]
def kJ : List (Nat × Nat) := [(202, 480), (206, 400)]
/-- the reference's fields that journeys read -/
def kMv (ad : Nat → Nat) (n : Nat) (op : Int32) (vs : List Value) : Prop := (vs[111]? = some (.ref (ad 194))) ∧ (vs[112]? = some (.ref (ad 195))) ∧ (vs[113]? = some (.int (nI n))) ∧ (vs[115]? = some (.ref (ad 197))) ∧ (vs[116]? = some (.ref (ad 198))) ∧ (vs[117]? = some (.ref (ad 199))) ∧ (vs[118]? = some (.ref (ad 200))) ∧ (vs[119]? = some (.ref (ad 201))) ∧ (vs[120]? = some (.ref (ad 202))) ∧ (vs[121]? = some (.int op)) ∧ (vs[122]? = some (.ref (ad 203))) ∧ (vs[123]? = some (.ref (ad 204))) ∧ (vs[124]? = some (.ref (ad 205))) ∧ (vs[125]? = some (.ref (ad 206)))
theorem kMv.h111 {ad : Nat → Nat} {n : Nat} {op : Int32} {vs : List Value} (h : kMv ad n op vs) : vs[111]? = some (.ref (ad 194)) := h.1
theorem kMv.h112 {ad : Nat → Nat} {n : Nat} {op : Int32} {vs : List Value} (h : kMv ad n op vs) : vs[112]? = some (.ref (ad 195)) := h.2.1
theorem kMv.h113 {ad : Nat → Nat} {n : Nat} {op : Int32} {vs : List Value} (h : kMv ad n op vs) : vs[113]? = some (.int (nI n)) := h.2.2.1
theorem kMv.h115 {ad : Nat → Nat} {n : Nat} {op : Int32} {vs : List Value} (h : kMv ad n op vs) : vs[115]? = some (.ref (ad 197)) := h.2.2.2.1
theorem kMv.h116 {ad : Nat → Nat} {n : Nat} {op : Int32} {vs : List Value} (h : kMv ad n op vs) : vs[116]? = some (.ref (ad 198)) := h.2.2.2.2.1
theorem kMv.h117 {ad : Nat → Nat} {n : Nat} {op : Int32} {vs : List Value} (h : kMv ad n op vs) : vs[117]? = some (.ref (ad 199)) := h.2.2.2.2.2.1
theorem kMv.h118 {ad : Nat → Nat} {n : Nat} {op : Int32} {vs : List Value} (h : kMv ad n op vs) : vs[118]? = some (.ref (ad 200)) := h.2.2.2.2.2.2.1
theorem kMv.h119 {ad : Nat → Nat} {n : Nat} {op : Int32} {vs : List Value} (h : kMv ad n op vs) : vs[119]? = some (.ref (ad 201)) := h.2.2.2.2.2.2.2.1
theorem kMv.h120 {ad : Nat → Nat} {n : Nat} {op : Int32} {vs : List Value} (h : kMv ad n op vs) : vs[120]? = some (.ref (ad 202)) := h.2.2.2.2.2.2.2.2.1
theorem kMv.h121 {ad : Nat → Nat} {n : Nat} {op : Int32} {vs : List Value} (h : kMv ad n op vs) : vs[121]? = some (.int op) := h.2.2.2.2.2.2.2.2.2.1
theorem kMv.h122 {ad : Nat → Nat} {n : Nat} {op : Int32} {vs : List Value} (h : kMv ad n op vs) : vs[122]? = some (.ref (ad 203)) := h.2.2.2.2.2.2.2.2.2.2.1
theorem kMv.h123 {ad : Nat → Nat} {n : Nat} {op : Int32} {vs : List Value} (h : kMv ad n op vs) : vs[123]? = some (.ref (ad 204)) := h.2.2.2.2.2.2.2.2.2.2.2.1
theorem kMv.h124 {ad : Nat → Nat} {n : Nat} {op : Int32} {vs : List Value} (h : kMv ad n op vs) : vs[124]? = some (.ref (ad 205)) := h.2.2.2.2.2.2.2.2.2.2.2.2.1
theorem kMv.h125 {ad : Nat → Nat} {n : Nat} {op : Int32} {vs : List Value} (h : kMv ad n op vs) : vs[125]? = some (.ref (ad 206)) := h.2.2.2.2.2.2.2.2.2.2.2.2.2
abbrev kW (ad : Nat → Nat) (cI : Nat → ClassId) (vs : List Value) (V : Nat → Nat → Int32) (L : Nat → Nat → Int64) (cw : va_W) : Prop := xg kI kJ [114] ad cI V L (fun _ => (12, vs)) cw
abbrev kVc (X : jT) (V : Nat → Nat → Int32) : Prop := jV X (V 197) (V 198) (V 199) (V 200) (V 194) (V 195)
/-- an entry in rows -/
def krm : Option jP → Int32 → Int64 → Prop
  | none, x, _ => x = -1
  | some a, x, y => x = nI a.1 ∧ y = nL a.2 ∧ a.1 < 10000 ∧ a.2 < 2 ^ 60
/-- the table of so many legs -/
def ktm (B : jB) (g : Nat) (f : Nat → Int32) (c : Nat → Int64) : Prop := ∀ p, p < 96 → krm (B p) (f (96 * g + p)) (c (96 * g + p))
/-- other numbers of legs stay, other rows, too -/
def kst (g : Nat) (V V' : Nat → Nat → Int32) (L L' : Nat → Nat → Int64) : Prop := (∀ q, q ≠ 201 → V' q = V q) ∧ (∀ q, q ≠ 202 → L' q = L q) ∧ ∀ y, (y < 96 * g ∨ 96 * g + 96 ≤ y) → V' 201 y = V 201 y ∧ L' 202 y = L 202 y
theorem kst_rf (g : Nat) (V : Nat → Nat → Int32) (L : Nat → Nat → Int64) : kst g V V L L := ⟨fun _ _ => rfl, fun _ _ => rfl, fun _ _ => ⟨rfl, rfl⟩⟩
theorem kst_tr {g : Nat} {V V1 V2 : Nat → Nat → Int32} {L L1 L2 : Nat → Nat → Int64} (h : kst g V V1 L L1) (h' : kst g V1 V2 L1 L2) : kst g V V2 L L2 := ⟨fun q hq => (h'.1 q hq).trans (h.1 q hq), fun q hq => (h'.2.1 q hq).trans (h.2.1 q hq), fun y hy => ⟨(h'.2.2 y hy).1.trans (h.2.2 y hy).1, (h'.2.2 y hy).2.trans (h.2.2 y hy).2⟩⟩
theorem kVc_st {X : jT} {g : Nat} {V V1 : Nat → Nat → Int32} {L L1 : Nat → Nat → Int64} (h : kst g V V1 L L1) (hX : kVc X V) : kVc X V1 := by
  unfold kVc
  rw [h.1 197 (by decide), h.1 198 (by decide), h.1 199 (by decide), h.1 200 (by decide), h.1 194 (by decide), h.1 195 (by decide)]
  exact hX
theorem kpl {g p : Nat} (hg : g < 100) (hp : p < 100) : 96 * nI g + nI p = nI (96 * g + p) := by
  rw [show (96 : Int32) = nI 96 by decide, dni_mul (by omega) (by omega), dni_plus (by omega) (by omega)]
abbrev xFar : yMR := xmr ⟨"RailwayHouseModel", "fareOf", "(III)I"⟩ prog_14_method_148_code 5 (some .int) ⟨1, 0, 0, 60⟩ 12
abbrev xOfm : yMR := xmr ⟨"RailwayHouseModel", "offer", "(IIIJ)V"⟩ prog_14_method_149_code 8 none ⟨1, 0, 0, 60⟩ 12
abbrev xGoF : yMR := xmr ⟨"RailwayHouseModel", "goFrom", "(IIIIJ)V"⟩ prog_14_method_150_code 8 none ⟨2, 0, 0, 87⟩ 12
section ZA
variable {l : Launch} {D : va_G} {b : Nat → Nat} {cw : va_W} {tys : List (ClassId × FieldType)} {sz : Nat} {ad : Nat → Nat} {cI : Nat → ClassId} {V : Nat → Nat → Int32} {L : Nat → Nat → Int64}
theorem kabs {a b : Nat} (ha : a ≤ 9) (hb : b ≤ 9) : (¬ 0 ≤ nI a - nI b → 100 + 30 * (-(nI a - nI b)) = nI (100 + 30 * ((a : Int) - b).natAbs)) ∧ (0 ≤ nI a - nI b → 100 + 30 * (nI a - nI b) = nI (100 + 30 * ((a : Int) - b).natAbs)) := by
  have h : ((List.range 10).all fun a => (List.range 10).all fun b => decide ((¬ 0 ≤ nI a - nI b → (100 : Int32) + 30 * (-(nI a - nI b)) = nI (100 + 30 * ((a : Int) - b).natAbs)) ∧ (0 ≤ nI a - nI b → (100 : Int32) + 30 * (nI a - nI b) = nI (100 + 30 * ((a : Int) - b).natAbs)))) = true := by decide +kernel
  exact of_decide_eq_true (List.all_eq_true.mp (List.all_eq_true.mp h a (List.mem_range.mpr (by omega))) b (List.mem_range.mpr (by omega)))
set_option maxHeartbeats 1000000 in
theorem kM_far {op : Int32} {vs : List Value} {X : jT} (hv : kMv ad X.n op vs) (hX : kVc X V) (hT : xgT kI kJ cI tys) (hc : kW ad cI vs V L cw) {r i j : Nat} (hr : r < X.n) (hi : i < X.S r) (hj : j < X.S r) : Met l (y_y xFar) (y_ws ztb xFar) (y_rm xFar) (y_Pc znw b zcls D cw tys sz [.ref (ad 114), .int (nI r), .int (nI i), .int (nI j)]) (y_Q zcls D (fun cw' tys' rv => rv = some (.int (nI (jfa X r i j))) ∧ tys' = tys ∧ cw' = cw) cw sz) 0 0 (va_A cw sz) := by
  refine xMet (tb := ytb yw00) (mr := xFar) yo_ym93 (fun x hx => by cases hx) (Nat.le_of_ble_eq_true rfl) ?_
  intro p e s m below meth c Q ls hsz hF hs hl kv ki
  have hl : lv_has ls 5 [(0, .ref (ad 114)), (1, .int (nI r)), (2, .int (nI i)), (3, .int (nI j))] := hl
  have hn := hX.n
  have h8 := (hX.S r (by omega)).2
  have p1 : 8 * r + i < 96 := by omega
  have p2 : 8 * r + j < 96 := by omega
  have s1 := hX.st _ p1
  have s2 := hX.st _ p2
  have z1 := hX.zn _ s1.2
  have z2 := hX.zn _ s2.2
  have ka := kabs z1.2 z2.2
  refine lv_aload_n (k := 0) hF.1 hF.2.1 (y_dcd_ok (by decide +kernel)) rfl (lv_at hl 0 rfl) ?_
  refine ggo (n := 8222) (index := 253) hF hs hc 114 (by decide) rfl 112 (by decide) (by decide +kernel) hv.h112 (by decide +kernel) ?_
  refine lv_aload_n (k := 0) hF.1 hF.2.1 (y_dcd_ok (by decide +kernel)) rfl (lv_at hl 0 rfl) ?_
  refine ggo (n := 8226) (index := 262) hF hs hc 114 (by decide) rfl 116 (by decide) (by decide +kernel) hv.h116 (by decide +kernel) ?_
  refine lv_bipush (n := 8) (v := 8) hF.1 hF.2.1 (y_dcd_ok (by decide +kernel)) (by decide) ?_
  refine lv_iload_n (k := 1) hF.1 hF.2.1 (y_dcd_ok (by decide +kernel)) rfl (lv_at hl 1 rfl) ?_
  refine lv_imul hF.1 hF.2.1 (y_dcd_ok (by decide +kernel)) ?_
  refine lv_iload_n (k := 2) hF.1 hF.2.1 (y_dcd_ok (by decide +kernel)) rfl (lv_at hl 2 rfl) ?_
  refine lv_iadd hF.1 hF.2.1 (y_dcd_ok (by decide +kernel)) ?_
  rw [jpl' (by omega) (by omega)]
  refine gald hF hs hT hc 198 96 (by decide) (by decide) p1 (by decide +kernel) ?_
  rw [s1.1]
  refine gald hF hs hT hc 195 8 (by decide) (by decide) s1.2 (by decide +kernel) ?_
  rw [z1.1]
  refine lv_aload_n (k := 0) hF.1 hF.2.1 (y_dcd_ok (by decide +kernel)) rfl (lv_at hl 0 rfl) ?_
  refine ggo (n := 8222) (index := 253) hF hs hc 114 (by decide) rfl 112 (by decide) (by decide +kernel) hv.h112 (by decide +kernel) ?_
  refine lv_aload_n (k := 0) hF.1 hF.2.1 (y_dcd_ok (by decide +kernel)) rfl (lv_at hl 0 rfl) ?_
  refine ggo (n := 8226) (index := 262) hF hs hc 114 (by decide) rfl 116 (by decide) (by decide +kernel) hv.h116 (by decide +kernel) ?_
  refine lv_bipush (n := 8) (v := 8) hF.1 hF.2.1 (y_dcd_ok (by decide +kernel)) (by decide) ?_
  refine lv_iload_n (k := 1) hF.1 hF.2.1 (y_dcd_ok (by decide +kernel)) rfl (lv_at hl 1 rfl) ?_
  refine lv_imul hF.1 hF.2.1 (y_dcd_ok (by decide +kernel)) ?_
  refine lv_iload_n (k := 3) hF.1 hF.2.1 (y_dcd_ok (by decide +kernel)) rfl (lv_at hl 3 rfl) ?_
  refine lv_iadd hF.1 hF.2.1 (y_dcd_ok (by decide +kernel)) ?_
  rw [jpl' (by omega) (by omega)]
  refine gald hF hs hT hc 198 96 (by decide) (by decide) p2 (by decide +kernel) ?_
  rw [s2.1]
  refine gald hF hs hT hc 195 8 (by decide) (by decide) s2.2 (by decide +kernel) ?_
  rw [z2.1]
  refine lv_isub hF.1 hF.2.1 (y_dcd_ok (by decide +kernel)) ?_
  refine lv_istore (nL := 5) (i := 4) hF.1 hF.2.1 (y_dcd_ok (by decide +kernel)) hl (by decide) rfl (fun ls hl => ?_)
  refine lv_bipush (n := 100) (v := 100) hF.1 hF.2.1 (y_dcd_ok (by decide +kernel)) (by decide) ?_
  refine lv_bipush (n := 30) (v := 30) hF.1 hF.2.1 (y_dcd_ok (by decide +kernel)) (by decide) ?_
  refine lv_iload (i := 4) hF.1 hF.2.1 (y_dcd_ok (by decide +kernel)) (lv_at hl 0 rfl) ?_
  refine lv_if_ge (off := 9) (tgt := 50) hF.1 hF.2.1 (y_dcd_ok (by decide +kernel)) (by decide) (fun hq => ?_) (fun hq => ?_)
  · show W _ _ _ _ _ _ _ _ _ _ _ _ _ _ _ (F0 m 50 ls [.int 30, .int 100])
    refine lv_iload (i := 4) hF.1 hF.2.1 (y_dcd_ok (by decide +kernel)) (lv_at hl 0 rfl) ?_
    refine lv_imul hF.1 hF.2.1 (y_dcd_ok (by decide +kernel)) ?_
    refine lv_iadd hF.1 hF.2.1 (y_dcd_ok (by decide +kernel)) ?_
    rw [ka.2 hq]
    exact ki _ _ cw tys ls _ _ .int rfl rfl (by decide +kernel) hs ⟨rfl, rfl, rfl⟩
  · show W _ _ _ _ _ _ _ _ _ _ _ _ _ _ _ (F0 m 44 ls [.int 30, .int 100])
    refine lv_iload (i := 4) hF.1 hF.2.1 (y_dcd_ok (by decide +kernel)) (lv_at hl 0 rfl) ?_
    refine lv_ineg hF.1 hF.2.1 (y_dcd_ok (by decide +kernel)) ?_
    refine lv_goto (off := 5) (tgt := 52) hF.1 hF.2.1 (y_dcd_ok (by decide +kernel)) (by decide) ?_
    refine lv_imul hF.1 hF.2.1 (y_dcd_ok (by decide +kernel)) ?_
    refine lv_iadd hF.1 hF.2.1 (y_dcd_ok (by decide +kernel)) ?_
    rw [ka.1 hq]
    exact ki _ _ cw tys ls 54 _ .int rfl rfl (by decide +kernel) hs ⟨rfl, rfl, rfl⟩
set_option maxHeartbeats 2000000 in
theorem kM_off {n : Nat} {op : Int32} {vs : List Value} (hv : kMv ad n op vs) (hT : xgT kI kJ cI tys) (hc : kW ad cI vs V L cw) {g st : Nat} (hg : g ≤ 4) (hst : st < 96) {a : jP} (ha : a.1 < 10000 ∧ a.2 < 2 ^ 60) {B : jB} (hB : ktm B g (V 201) (L 202)) : Met l (y_y xOfm) (y_ws ztb xOfm) (y_rm xOfm) (y_Pc znw b zcls D cw tys sz [.ref (ad 114), .int (nI g), .int (nI st), .int (nI a.1), .long (nL a.2)]) (y_Q zcls D (fun cw' tys' rv => rv = none ∧ tys' = tys ∧ ∃ V' L', kW ad cI vs V' L' cw' ∧ kst g V V' L L' ∧ ktm (jset B st (joff (B st) a)) g (V' 201) (L' 202)) cw sz) 0 0 (va_A cw sz) := by
  refine xMet (tb := ytb yw00) (mr := xOfm) yo_yr264 (fun x hx => by cases hx) (Nat.le_of_ble_eq_true rfl) ?_
  intro p e s m below meth c Q ls hsz hF hs hl kv ki
  have hl : lv_has ls 8 [(0, .ref (ad 114)), (1, .int (nI g)), (2, .int (nI st)), (3, .int (nI a.1)), (4, .long (nL a.2))] := hl
  generalize va_A cw sz = A at *
  have hx : 96 * g + st < 480 := by omega
  have hBs := hB _ hst
  have no : ¬ jbt (B st) a = true → ∀ ls : Array Slot, lv_has ls 8 [(6, .int (nI (96 * g + st))), (0, .ref (ad 114)), (1, .int (nI g)), (2, .int (nI st)), (3, .int (nI a.1)), (4, .long (nL a.2))] → W p l e (y_rm xOfm) s m [Value.ref (ad 114), .int (nI g), .int (nI st), .int (nI a.1), .long (nL a.2)].toArray below meth c s.heap [] 0 0 Q (F0 m 57 ls []) := fun hb ls hl => by
    refine lv_iconst (n := 0) (v := 0) hF.1 hF.2.1 (y_dcd_ok (by decide +kernel)) (by decide) ?_
    refine lv_istore (nL := 8) (i := 7) hF.1 hF.2.1 (y_dcd_ok (by decide +kernel)) hl (by decide) rfl (fun ls hl => ?_)
    refine lv_iload (i := 7) hF.1 hF.2.1 (y_dcd_ok (by decide +kernel)) (lv_at hl 0 rfl) ?_
    refine lv_if_eq (off := 20) (tgt := 82) hF.1 hF.2.1 (y_dcd_ok (by decide +kernel)) (by decide) (fun hq => ?_) (fun hq => ?_)
    · exact kv _ _ cw tys ls 82 rfl (by decide +kernel) hs ⟨rfl, rfl, V, L, hc, kst_rf g V L, by rw [joff_bt, if_neg hb, jset_self]; exact hB⟩
    · exact absurd rfl hq
  have yes : jbt (B st) a = true → ∀ ls : Array Slot, lv_has ls 8 [(6, .int (nI (96 * g + st))), (0, .ref (ad 114)), (1, .int (nI g)), (2, .int (nI st)), (3, .int (nI a.1)), (4, .long (nL a.2))] → W p l e (y_rm xOfm) s m [Value.ref (ad 114), .int (nI g), .int (nI st), .int (nI a.1), .long (nL a.2)].toArray below meth c s.heap [] 0 0 Q (F0 m 53 ls []) := fun hb ls hl => by
    refine lv_iconst (n := 1) (v := 1) hF.1 hF.2.1 (y_dcd_ok (by decide +kernel)) (by decide) ?_
    refine lv_goto (off := 4) (tgt := 58) hF.1 hF.2.1 (y_dcd_ok (by decide +kernel)) (by decide) ?_
    refine lv_istore (nL := 8) (i := 7) hF.1 hF.2.1 (y_dcd_ok (by decide +kernel)) hl (by decide) rfl (fun ls hl => ?_)
    refine lv_iload (i := 7) hF.1 hF.2.1 (y_dcd_ok (by decide +kernel)) (lv_at hl 0 rfl) ?_
    refine lv_if_eq (off := 20) (tgt := 82) hF.1 hF.2.1 (y_dcd_ok (by decide +kernel)) (by decide) (fun hq => ?_) (fun hq => ?_)
    · exact absurd hq (by decide)
    refine lv_aload_n (k := 0) hF.1 hF.2.1 (y_dcd_ok (by decide +kernel)) rfl (lv_at hl 2 rfl) ?_
    refine ggo (n := 8229) (index := 271) hF hs hc 114 (by decide) rfl 119 (by decide) (by decide +kernel) hv.h119 (by decide +kernel) ?_
    refine lv_iload (i := 6) hF.1 hF.2.1 (y_dcd_ok (by decide +kernel)) (lv_at hl 1 rfl) ?_
    refine lv_iload_n (k := 3) hF.1 hF.2.1 (y_dcd_ok (by decide +kernel)) rfl (lv_at hl 5 rfl) ?_
    refine gast hF hs hT hc 201 480 (by decide) (by decide) hx (by decide +kernel) (fun H locs cw hs hc => ?_)
    refine lv_aload_n (k := 0) hF.1 hF.2.1 (y_dcd_ok (by decide +kernel)) rfl (lv_at hl 2 rfl) ?_
    refine ggo (n := 8230) (index := 274) hF hs hc 114 (by decide) rfl 120 (by decide) (by decide +kernel) hv.h120 (by decide +kernel) ?_
    refine lv_iload (i := 6) hF.1 hF.2.1 (y_dcd_ok (by decide +kernel)) (lv_at hl 1 rfl) ?_
    refine lv_lload (i := 4) hF.1 hF.2.1 (y_dcd_ok (by decide +kernel)) (lv_at hl 6 rfl) ?_
    refine glast hF hs hT hc 202 480 (by decide) (by decide) hx (by decide +kernel) (fun H locs cw hs hc => ?_)
    refine kv _ _ cw tys ls 82 rfl (by decide +kernel) hs ⟨rfl, rfl, _, _, hc, ⟨fun q hq => xup_n _ _ _ hq, fun q hq => xupL_n _ _ _ hq, fun y hy => ?_⟩, ?_⟩
    · rw [xup_s, xupL_s]
      have : y ≠ 96 * g + st := by omega
      simp [upd, vp_updL, this]
    · rw [joff_bt, if_pos hb, xup_s, xupL_s]
      intro p hp
      unfold jset
      by_cases e : p = st
      · subst e
        rw [if_pos rfl]
        simp only [upd, vp_updL, if_pos]
        exact ⟨rfl, rfl, ha.1, ha.2⟩
      · rw [if_neg e]
        have e' : 96 * g + p ≠ 96 * g + st := by omega
        simp only [upd, vp_updL, if_neg e']
        exact hB p hp
  refine lv_bipush (n := 96) (v := 96) hF.1 hF.2.1 (y_dcd_ok (by decide +kernel)) (by decide) ?_
  refine lv_iload_n (k := 1) hF.1 hF.2.1 (y_dcd_ok (by decide +kernel)) rfl (lv_at hl 1 rfl) ?_
  refine lv_imul hF.1 hF.2.1 (y_dcd_ok (by decide +kernel)) ?_
  refine lv_iload_n (k := 2) hF.1 hF.2.1 (y_dcd_ok (by decide +kernel)) rfl (lv_at hl 2 rfl) ?_
  refine lv_iadd hF.1 hF.2.1 (y_dcd_ok (by decide +kernel)) ?_
  rw [kpl (by omega) (by omega)]
  refine lv_istore (nL := 8) (i := 6) hF.1 hF.2.1 (y_dcd_ok (by decide +kernel)) hl (by decide) rfl (fun ls hl => ?_)
  refine lv_aload_n (k := 0) hF.1 hF.2.1 (y_dcd_ok (by decide +kernel)) rfl (lv_at hl 1 rfl) ?_
  refine ggo (n := 8229) (index := 271) hF hs hc 114 (by decide) rfl 119 (by decide) (by decide +kernel) hv.h119 (by decide +kernel) ?_
  refine lv_iload (i := 6) hF.1 hF.2.1 (y_dcd_ok (by decide +kernel)) (lv_at hl 0 rfl) ?_
  refine gald hF hs hT hc 201 480 (by decide) (by decide) hx (by decide +kernel) ?_
  refine lv_if_lt (off := 38) (tgt := 53) hF.1 hF.2.1 (y_dcd_ok (by decide +kernel)) (by decide) (fun hq => ?_) (fun hq => ?_)
  · refine yes ?_ ls (lv_sub hl [0, 1, 2, 3, 4, 5] rfl)
    cases hb : B st with
    | none => rfl
    | some y =>
      rw [hb] at hBs
      obtain ⟨k1, _, k2, _⟩ := hBs
      rw [k1] at hq
      have := (dni_ltb (j := 0) (by omega) (by decide)).mp hq
      omega
  obtain ⟨y, hy⟩ : ∃ y, B st = some y := by
    cases hb : B st with
    | none =>
      rw [hb] at hBs
      rw [show V 201 (96 * g + st) = -1 from hBs] at hq
      exact absurd (by decide) hq
    | some y => exact ⟨y, rfl⟩
  clear hq
  rw [hy] at hBs
  rw [hy] at yes no
  obtain ⟨k1, k2, k3, k4⟩ := hBs
  refine lv_iload_n (k := 3) hF.1 hF.2.1 (y_dcd_ok (by decide +kernel)) rfl (lv_at hl 4 rfl) ?_
  refine lv_aload_n (k := 0) hF.1 hF.2.1 (y_dcd_ok (by decide +kernel)) rfl (lv_at hl 1 rfl) ?_
  refine ggo (n := 8229) (index := 271) hF hs hc 114 (by decide) rfl 119 (by decide) (by decide +kernel) hv.h119 (by decide +kernel) ?_
  refine lv_iload (i := 6) hF.1 hF.2.1 (y_dcd_ok (by decide +kernel)) (lv_at hl 0 rfl) ?_
  refine gald hF hs hT hc 201 480 (by decide) (by decide) hx (by decide +kernel) ?_
  rw [k1]
  refine lv_icmp_lt (off := 27) (tgt := 53) hF.1 hF.2.1 (y_dcd_ok (by decide +kernel)) (by decide) (fun hq => ?_) (fun hq => ?_)
  · exact yes (decide_eq_true (Or.inl ((dni_ltb (by omega) (by omega)).mp hq))) ls (lv_sub hl [0, 1, 2, 3, 4, 5] rfl)
  have hge : ¬ a.1 < y.1 := fun q => hq ((dni_ltb (by omega) (by omega)).mpr q)
  clear hq
  refine lv_iload_n (k := 3) hF.1 hF.2.1 (y_dcd_ok (by decide +kernel)) rfl (lv_at hl 4 rfl) ?_
  refine lv_aload_n (k := 0) hF.1 hF.2.1 (y_dcd_ok (by decide +kernel)) rfl (lv_at hl 1 rfl) ?_
  refine ggo (n := 8229) (index := 271) hF hs hc 114 (by decide) rfl 119 (by decide) (by decide +kernel) hv.h119 (by decide +kernel) ?_
  refine lv_iload (i := 6) hF.1 hF.2.1 (y_dcd_ok (by decide +kernel)) (lv_at hl 0 rfl) ?_
  refine gald hF hs hT hc 201 480 (by decide) (by decide) hx (by decide +kernel) ?_
  rw [k1]
  refine lv_icmp_ne (off := 20) (tgt := 57) hF.1 hF.2.1 (y_dcd_ok (by decide +kernel)) (by decide) (fun hq => ?_) (fun hq => ?_)
  · refine no (fun q => ?_) ls (lv_sub hl [0, 1, 2, 3, 4, 5] rfl)
    have q : jlt a y := of_decide_eq_true q
    have hne : a.1 ≠ y.1 := fun z => hq (by rw [z])
    unfold jlt at q
    omega
  have he := dni_injb (by omega) (by omega) hq
  clear hq
  refine lv_lload (i := 4) hF.1 hF.2.1 (y_dcd_ok (by decide +kernel)) (lv_at hl 5 rfl) ?_
  refine lv_aload_n (k := 0) hF.1 hF.2.1 (y_dcd_ok (by decide +kernel)) rfl (lv_at hl 1 rfl) ?_
  refine ggo (n := 8230) (index := 274) hF hs hc 114 (by decide) rfl 120 (by decide) (by decide +kernel) hv.h120 (by decide +kernel) ?_
  refine lv_iload (i := 6) hF.1 hF.2.1 (y_dcd_ok (by decide +kernel)) (lv_at hl 0 rfl) ?_
  refine glald hF hs hT hc 202 480 (by decide) (by decide) hx (by decide +kernel) ?_
  rw [k2]
  refine W.lcmp hF.1 hF.2.1 (y_dcd_ok (by decide +kernel)) ?_
  refine lv_if_ge (off := 7) (tgt := 57) hF.1 hF.2.1 (y_dcd_ok (by decide +kernel)) (by decide) (fun hq => ?_) (fun hq => ?_)
  · refine no (fun q => ?_) ls (lv_sub hl [0, 1, 2, 3, 4, 5] rfl)
    have q : jlt a y := of_decide_eq_true q
    have hlt : a.2 < y.2 := by unfold jlt at q; omega
    have h5 := (lg_cmp_nL (i := a.2) (j := y.2) (by omega) (by omega)).1.mpr hlt
    have h6 := Int32.lt_iff_toInt_lt.mp h5
    have h7 := Int32.le_iff_toInt_le.mp hq
    omega
  · refine yes (decide_eq_true (Or.inr ⟨he, ?_⟩)) ls (lv_sub hl [0, 1, 2, 3, 4, 5] rfl)
    exact (lg_cmp_nL (i := a.2) (j := y.2) (by omega) (by omega)).1.mp (Int32.not_le.mp hq)
set_option maxHeartbeats 4000000 in
theorem kM_gof {op : Int32} {vs : List Value} {X : jT} (hv : kMv ad X.n op vs) (hX : kVc X V) (hT : xgT kI kJ cI tys) (hc : kW ad cI vs V L cw) {g r i : Nat} (hg : g ≤ 4) (hr : r < X.n) (hi : i < X.S r) {x : jP} (hx : x.1 < 5000 ∧ x.2 < 2 ^ 40) {B : jB} (hB : ktm B g (V 201) (L 202)) : Met l (y_y xGoF) (y_ws ztb xGoF) (y_rm xGoF) (y_Pc znw b zcls D cw tys sz [.ref (ad 114), .int (nI g), .int (nI r), .int (nI i), .int (nI x.1), .long (nL x.2)]) (y_Q zcls D (fun cw' tys' rv => rv = none ∧ tys' = tys ∧ ∃ V' L', kW ad cI vs V' L' cw' ∧ kst g V V' L L' ∧ ktm (jri X r i B x) g (V' 201) (L' 202)) cw sz) 0 0 (va_A cw sz) := by
  refine xMet (tb := ytb yw00) (mr := xGoF) yo_yr222 (fun x hx => by cases hx) (Nat.le_of_ble_eq_true rfl) ?_
  intro p e s m below meth c Q ls hsz hF hs hl kv ki
  have hl : lv_has ls 8 [(0, .ref (ad 114)), (1, .int (nI g)), (2, .int (nI r)), (3, .int (nI i)), (4, .int (nI x.1)), (5, .long (nL x.2))] := hl
  generalize va_A cw sz = A at *
  have hn := hX.n
  have h8 := (hX.S r (by omega)).2
  have loop : ∀ (d k : Nat), k + d = X.S r → i < k → ∀ (H : Heap) (locs : List Loc) (cw : va_W) (V1 : Nat → Nat → Int32) (L1 : Nat → Nat → Int64) (ls : Array Slot), xs D s A H locs cw tys → kW ad cI vs V1 L1 cw → kst g V V1 L L1 → ktm (jrp X r i x k B) g (V1 201) (L1 202) → lv_has ls 8 [(7, .int (nI k)), (0, .ref (ad 114)), (1, .int (nI g)), (2, .int (nI r)), (3, .int (nI i)), (4, .int (nI x.1)), (5, .long (nL x.2))] → W p l e (y_rm xGoF) s m [Value.ref (ad 114), .int (nI g), .int (nI r), .int (nI i), .int (nI x.1), .long (nL x.2)].toArray below meth c H locs 0 0 Q (F0 m 5 ls []) := by
    intro d
    induction d with
    | zero =>
      intro k hk hik H locs cw V1 L1 ls hs hc hst hB1 hl
      have eS : V1 197 r = nI (X.S r) := by rw [hst.1 197 (by decide)]; exact (hX.S r (by omega)).1
      refine lv_iload (i := 7) hF.1 hF.2.1 (y_dcd_ok (by decide +kernel)) (lv_at hl 0 rfl) ?_
      refine lv_aload_n (k := 0) hF.1 hF.2.1 (y_dcd_ok (by decide +kernel)) rfl (lv_at hl 1 rfl) ?_
      refine ggo (n := 8225) (index := 259) hF hs hc 114 (by decide) rfl 115 (by decide) (by decide +kernel) hv.h115 (by decide +kernel) ?_
      refine lv_iload_n (k := 2) hF.1 hF.2.1 (y_dcd_ok (by decide +kernel)) rfl (lv_at hl 3 rfl) ?_
      refine gald hF hs hT hc 197 12 (by decide) (by decide) (show r < 12 by omega) (by decide +kernel) ?_
      rw [eS]
      refine lv_icmp_ge (off := 52) (tgt := 65) hF.1 hF.2.1 (y_dcd_ok (by decide +kernel)) (by decide) (fun hq => ?_) (fun hq => ?_)
      · exact kv _ _ cw tys ls 65 rfl (by decide +kernel) hs ⟨rfl, rfl, V1, L1, hc, hst, by rw [show k = X.S r by omega] at hB1; exact hB1⟩
      · exact absurd ((dni_le (by omega) (by omega)).mpr (by omega)) hq
    | succ d ih =>
      intro k hk hik H locs cw V1 L1 ls hs hc hst hB1 hl
      have eS : V1 197 r = nI (X.S r) := by rw [hst.1 197 (by decide)]; exact (hX.S r (by omega)).1
      have hX1 := kVc_st hst hX
      have hp : 8 * r + k < 96 := by omega
      have hrs := jrp_s X r i x hik B
      refine lv_iload (i := 7) hF.1 hF.2.1 (y_dcd_ok (by decide +kernel)) (lv_at hl 0 rfl) ?_
      refine lv_aload_n (k := 0) hF.1 hF.2.1 (y_dcd_ok (by decide +kernel)) rfl (lv_at hl 1 rfl) ?_
      refine ggo (n := 8225) (index := 259) hF hs hc 114 (by decide) rfl 115 (by decide) (by decide +kernel) hv.h115 (by decide +kernel) ?_
      refine lv_iload_n (k := 2) hF.1 hF.2.1 (y_dcd_ok (by decide +kernel)) rfl (lv_at hl 3 rfl) ?_
      refine gald hF hs hT hc 197 12 (by decide) (by decide) (show r < 12 by omega) (by decide +kernel) ?_
      rw [eS]
      refine lv_icmp_ge (off := 52) (tgt := 65) hF.1 hF.2.1 (y_dcd_ok (by decide +kernel)) (by decide) (fun hq => ?_) (fun hq => ?_)
      · exact absurd ((dni_le (by omega) (by omega)).mp hq) (by omega)
      clear hq
      refine lv_aload_n (k := 0) hF.1 hF.2.1 (y_dcd_ok (by decide +kernel)) rfl (lv_at hl 1 rfl) ?_
      refine lv_iload_n (k := 1) hF.1 hF.2.1 (y_dcd_ok (by decide +kernel)) rfl (lv_at hl 2 rfl) ?_
      refine lv_bipush (n := 8) (v := 8) hF.1 hF.2.1 (y_dcd_ok (by decide +kernel)) (by decide) ?_
      refine lv_iload_n (k := 2) hF.1 hF.2.1 (y_dcd_ok (by decide +kernel)) rfl (lv_at hl 3 rfl) ?_
      refine lv_imul hF.1 hF.2.1 (y_dcd_ok (by decide +kernel)) ?_
      refine lv_iload (i := 7) hF.1 hF.2.1 (y_dcd_ok (by decide +kernel)) (lv_at hl 0 rfl) ?_
      refine lv_iadd hF.1 hF.2.1 (y_dcd_ok (by decide +kernel)) ?_
      rw [jpl' (by omega) (by omega)]
      refine lv_iload (i := 4) hF.1 hF.2.1 (y_dcd_ok (by decide +kernel)) (lv_at hl 5 rfl) ?_
      refine lv_aload_n (k := 0) hF.1 hF.2.1 (y_dcd_ok (by decide +kernel)) rfl (lv_at hl 1 rfl) ?_
      refine lv_iload_n (k := 2) hF.1 hF.2.1 (y_dcd_ok (by decide +kernel)) rfl (lv_at hl 3 rfl) ?_
      refine lv_iload_n (k := 3) hF.1 hF.2.1 (y_dcd_ok (by decide +kernel)) rfl (lv_at hl 4 rfl) ?_
      refine lv_iload (i := 7) hF.1 hF.2.1 (y_dcd_ok (by decide +kernel)) (lv_at hl 0 rfl) ?_
      refine xcallV (As := [.int _, .int _, .int _]) (rest := [.int (nI x.1), .int (nI (8 * r + k)), .int (nI g), .ref (ad 114)]) (n := 12166) (j := 815) hF hs hl.1 (hc.hO 114 (by decide)) (cm := xFar) yo_ym93 rfl (by decide) (by decide +kernel) (show _ = some 3 from by decide +kernel) (by decide +kernel) ⟨by decide, by decide⟩ ⟨rfl, rfl⟩ (Nat.le_of_ble_eq_true rfl) ⟨Nat.zero_le _, Nat.zero_le _⟩ (kM_far hv hX1 hT hc hr hi (show k < X.S r by omega)) (fun H1 locs1 cw1 tys1 rv hs hX => ?_)
      obtain ⟨e1, e2, e3⟩ := hX
      subst e1
      rw [e2, e3] at hs
      show W _ _ _ _ _ _ _ _ _ _ _ _ _ _ _ (F0 m 35 ls [.int (nI (jfa X r i k)), .int (nI x.1), .int (nI (8 * r + k)), .int (nI g), .ref (ad 114)])
      refine lv_iadd hF.1 hF.2.1 (y_dcd_ok (by decide +kernel)) ?_
      have hfa : jfa X r i k < 1000 := by
        have z1 := (hX1.zn _ (hX1.st (8 * r + i) (by omega)).2).2
        have z2 := (hX1.zn _ (hX1.st (8 * r + k) (by omega)).2).2
        unfold jfa
        omega
      rw [dni_plus (by omega) (by omega)]
      refine lv_lload (i := 5) hF.1 hF.2.1 (y_dcd_ok (by decide +kernel)) (lv_at hl 6 rfl) ?_
      refine lv_bipush (n := 10) (v := 10) hF.1 hF.2.1 (y_dcd_ok (by decide +kernel)) (by decide) ?_
      refine lv_lshl hF.1 hF.2.1 (y_dcd_ok (by decide +kernel)) rfl ?_
      refine lv_iload_n (k := 2) hF.1 hF.2.1 (y_dcd_ok (by decide +kernel)) rfl (lv_at hl 3 rfl) ?_
      refine lv_bipush (n := 6) (v := 6) hF.1 hF.2.1 (y_dcd_ok (by decide +kernel)) (by decide) ?_
      refine lv_ishl hF.1 hF.2.1 (y_dcd_ok (by decide +kernel)) ?_
      refine lv_i2l hF.1 hF.2.1 (y_dcd_ok (by decide +kernel)) rfl ?_
      refine lv_lor hF.1 hF.2.1 (y_dcd_ok (by decide +kernel)) ?_
      refine lv_iload_n (k := 3) hF.1 hF.2.1 (y_dcd_ok (by decide +kernel)) rfl (lv_at hl 4 rfl) ?_
      refine lv_iconst (n := 3) (v := 3) hF.1 hF.2.1 (y_dcd_ok (by decide +kernel)) (by decide) ?_
      refine lv_ishl hF.1 hF.2.1 (y_dcd_ok (by decide +kernel)) ?_
      refine lv_i2l hF.1 hF.2.1 (y_dcd_ok (by decide +kernel)) rfl ?_
      refine lv_lor hF.1 hF.2.1 (y_dcd_ok (by decide +kernel)) ?_
      refine lv_iload (i := 7) hF.1 hF.2.1 (y_dcd_ok (by decide +kernel)) (lv_at hl 0 rfl) ?_
      refine lv_i2l hF.1 hF.2.1 (y_dcd_ok (by decide +kernel)) rfl ?_
      refine lv_lor hF.1 hF.2.1 (y_dcd_ok (by decide +kernel)) ?_
      rw [jleg3 (by omega) (by omega) (by omega) hx.2]
      refine xcallV (As := [.int (nI g), .int (nI (8 * r + k)), .int (nI (jup (jfa X r i k) (jco r i k) x).1), .long (nL (jup (jfa X r i k) (jco r i k) x).2)]) (rest := []) (n := 12170) (j := 818) hF hs hl.1 (hc.hO 114 (by decide)) (cm := xOfm) yo_yr264 rfl (by decide) (by decide +kernel) (show _ = some 4 from by decide +kernel) (by decide +kernel) ⟨by decide, by decide⟩ ⟨rfl, rfl⟩ (Nat.le_of_ble_eq_true rfl) ⟨Nat.zero_le _, Nat.zero_le _⟩ (kM_off hv hT hc hg hp ⟨by show x.1 + jfa X r i k < 10000; omega, by show x.2 * 1024 + (r * 64 + i * 8 + k) < 2 ^ 60; omega⟩ hB1) (fun H2 locs2 cw2 tys2 rv hs hX2 => ?_)
      obtain ⟨e1, e2', V2, L2, c2, s2, b2⟩ := hX2
      subst e1
      rw [e2'] at hs
      show W _ _ _ _ _ _ _ _ _ _ _ _ _ _ _ (F0 m 59 ls [])
      refine lv_iinc (nL := 8) (i := 7) (n := 1) (k := 0) (v := nI (k + 1)) hF.1 hF.2.1 (y_dcd_ok (by decide +kernel)) hl rfl (dni_add (by omega)) (by decide) rfl (fun ls hl => ?_)
      refine lv_goto (off := (-57)) (tgt := 5) hF.1 hF.2.1 (y_dcd_ok (by decide +kernel)) (by decide) ?_
      exact ih (k + 1) (by omega) (by omega) _ _ cw2 V2 L2 ls hs c2 (kst_tr hst s2) (by rw [hrs]; exact b2) hl
  refine lv_iload_n (k := 3) hF.1 hF.2.1 (y_dcd_ok (by decide +kernel)) rfl (lv_at hl 3 rfl) ?_
  refine lv_iconst (n := 1) (v := 1) hF.1 hF.2.1 (y_dcd_ok (by decide +kernel)) (by decide) ?_
  refine lv_iadd hF.1 hF.2.1 (y_dcd_ok (by decide +kernel)) ?_
  rw [dni_add1 (by omega)]
  refine lv_istore (nL := 8) (i := 7) hF.1 hF.2.1 (y_dcd_ok (by decide +kernel)) hl (by decide) rfl (fun ls hl => ?_)
  exact loop (X.S r - (i + 1)) (i + 1) (by omega) (by omega) _ _ cw V L ls hs hc (kst_rf g V L) (by rw [jrp_0 X r i x (Nat.le_refl _)]; exact hB) hl
end ZA
