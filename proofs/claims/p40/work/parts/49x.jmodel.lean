-- journeys of the reference: addOption
abbrev xAdd : yMR := xmr ⟨"RailwayHouseModel", "addOption", "(II)V"⟩ prog_14_method_154_code 8 none ⟨1, 0, 0, 60⟩ 12
/-- an option in rows -/
def kre (V : Nat → Nat → Int32) (L : Nat → Nat → Int64) (k : Nat) (x : jO) : Prop := V 203 k = nI x.a ∧ V 204 k = nI x.m ∧ V 205 k = nI x.f ∧ L 206 k = nL x.c
def kro (K : List jO) (V : Nat → Nat → Int32) (L : Nat → Nat → Int64) : Prop := ∀ k x, K[k]? = some x → kre V L k x ∧ jxb x
def kns (V V' : Nat → Nat → Int32) (L L' : Nat → Nat → Int64) : Prop := (∀ q, ¬ (203 ≤ q ∧ q ≤ 205) → V' q = V q) ∧ ∀ q, q ≠ 206 → L' q = L q
theorem xg_ob {I J : List (Nat × Nat)} {O : List Nat} {ad : Nat → Nat} {cI : Nat → ClassId} {V : Nat → Nat → Int32} {L : Nat → Nat → Int64} {ob ob' : Nat → Nat × List Value} {cw : va_W} (h : xg I J O ad cI V L ob cw) (e : ∀ o ∈ O, ob o = ob' o) : xg I J O ad cI V L ob' cw := ⟨h.hI, h.hJ, fun o ho => by rw [← e o ho]; exact h.hO o ho⟩
theorem kW_op {ad : Nat → Nat} {cI : Nat → ClassId} {V : Nat → Nat → Int32} {L : Nat → Nat → Int64} {vs : List Value} {v : Value} {cw : va_W} (h : xg kI kJ [114] ad cI V L (xob (fun _ => (12, vs)) 114 121 v) cw) : kW ad cI (vs.set 121 v) V L cw := xg_ob h (fun o ho => by rw [List.mem_singleton.mp ho]; rfl)
theorem kMv.set {ad : Nat → Nat} {n : Nat} {op : Int32} {vs : List Value} (h : kMv ad n op vs) (x : Int32) : kMv ad n x (vs.set 121 (.int x)) := by
  have hn : ∀ k, k ≠ 121 → (vs.set 121 (.int x))[k]? = vs[k]? := fun k hk => List.getElem?_set_ne (fun z => hk z.symm)
  exact ⟨by rw [hn _ (by decide)]; exact h.h111, by rw [hn _ (by decide)]; exact h.h112, by rw [hn _ (by decide)]; exact h.h113, by rw [hn _ (by decide)]; exact h.h115, by rw [hn _ (by decide)]; exact h.h116, by rw [hn _ (by decide)]; exact h.h117, by rw [hn _ (by decide)]; exact h.h118, by rw [hn _ (by decide)]; exact h.h119, by rw [hn _ (by decide)]; exact h.h120, List.getElem?_set_self (List.getElem?_eq_some_iff.mp h.h121).1, by rw [hn _ (by decide)]; exact h.h122, by rw [hn _ (by decide)]; exact h.h123, by rw [hn _ (by decide)]; exact h.h124, by rw [hn _ (by decide)]; exact h.h125⟩
theorem kMv.len {ad : Nat → Nat} {n : Nat} {op : Int32} {vs : List Value} (h : kMv ad n op vs) : 121 < vs.length := (List.getElem?_eq_some_iff.mp h.h121).1
section ZC
variable {l : Launch} {D : va_G} {b : Nat → Nat} {cw : va_W} {tys : List (ClassId × FieldType)} {sz : Nat} {ad : Nat → Nat} {cI : Nat → ClassId} {V : Nat → Nat → Int32} {L : Nat → Nat → Int64}
theorem kdif {a b : Nat} (ha : a < 100000) (hb : b < 100000) : (nI a - nI b ≤ 0 ↔ a ≤ b) := by
  have i1 := dni_int (k := a) (by omega)
  have i2 := dni_int (k := b) (by omega)
  have e0 : (0 : Int32).toInt = 0 := by decide
  rw [Int32.le_iff_toInt_le, di_sub (by omega) (by omega)]
  omega
set_option maxHeartbeats 8000000 in
theorem kM_add {n : Nat} {K : List jO} (hK : K.length < 400) {vs : List Value} (hv : kMv ad n (nI K.length) vs) (hT : xgT kI kJ cI tys) (hc : kW ad cI vs V L cw) (hro : kro K V L) {x : jO} (hx : jxb x) {st : Nat} (hst : st < 96) (hm : x.m ≤ 4) (ha : V 199 st = nI x.a) (hf : V 201 (96 * x.m + st) = nI x.f) (hcc : L 202 (96 * x.m + st) = nL x.c) : Met l (y_y xAdd) (y_ws ztb xAdd) (y_rm xAdd) (y_Pc znw b zcls D cw tys sz [.ref (ad 114), .int (nI x.m), .int (nI st)]) (y_Q zcls D (fun cw' tys' rv => rv = none ∧ tys' = tys ∧ ∃ V' L', kW ad cI (vs.set 121 (.int (nI (jin K x).length))) V' L' cw' ∧ kns V V' L L' ∧ kro (jin K x) V' L') cw sz) 0 0 (va_A cw sz) := by
  refine xMet (tb := ytb yw00) (mr := xAdd) yo_yr178 (fun x hx => by cases hx) (Nat.le_of_ble_eq_true rfl) ?_
  intro p e s m below meth c Q ls hsz hF hs hl kv ki
  have hl : lv_has ls 8 [(0, .ref (ad 114)), (1, .int (nI x.m)), (2, .int (nI st))] := hl
  generalize va_A cw sz = A at *
  obtain ⟨x1, x2, x3, x4⟩ := id hx
  have hxi : 96 * x.m + st < 480 := by omega
  have hlen : (jin K x).length = K.length + 1 := by
    have := jat_le K x K.length
    unfold jin
    rw [List.length_append, List.length_cons, List.length_take, List.length_drop]
    omega
  -- x comes in
  have fin : ∀ (k : Nat), k ≤ K.length → k = jat K x K.length → ∀ (ah : Int32) (H : Heap) (locs : List Loc) (cw : va_W) (V1 : Nat → Nat → Int32) (L1 : Nat → Nat → Int64) (ls : Array Slot), xs D s A H locs cw tys → kW ad cI vs V1 L1 cw → kns V V1 L L1 → (∀ j y, j < k → K[j]? = some y → kre V1 L1 j y) → (∀ j y, k ≤ j → K[j]? = some y → kre V1 L1 (j + 1) y) → lv_has ls 8 [(5, .int ah), (4, .int (nI k)), (3, .int (nI (96 * x.m + st))), (0, .ref (ad 114)), (1, .int (nI x.m)), (2, .int (nI st))] → W p l e (y_rm xAdd) s m [Value.ref (ad 114), .int (nI x.m), .int (nI st)].toArray below meth c H locs 0 0 Q (F0 m 184 ls []) := by
    intro k hk hat ah H locs cw V1 L1 ls hs hc hns hlo hhi hl
    have hk4 : k < 400 := by omega
    have f1 : V1 199 st = nI x.a := by rw [hns.1 199 (by decide)]; exact ha
    have f2 : V1 201 (96 * x.m + st) = nI x.f := by rw [hns.1 201 (by decide)]; exact hf
    have f3 : L1 202 (96 * x.m + st) = nL x.c := by rw [hns.2 202 (by decide)]; exact hcc
    refine lv_aload_n (k := 0) hF.1 hF.2.1 (y_dcd_ok (by decide +kernel)) rfl (lv_at hl 3 rfl) ?_
    refine ggo (n := 8232) (index := 277) hF hs hc 114 (by decide) rfl 122 (by decide) (by decide +kernel) hv.h122 (by decide +kernel) ?_
    refine lv_iload (i := 4) hF.1 hF.2.1 (y_dcd_ok (by decide +kernel)) (lv_at hl 1 rfl) ?_
    refine lv_aload_n (k := 0) hF.1 hF.2.1 (y_dcd_ok (by decide +kernel)) rfl (lv_at hl 3 rfl) ?_
    refine ggo (n := 8227) (index := 265) hF hs hc 114 (by decide) rfl 117 (by decide) (by decide +kernel) hv.h117 (by decide +kernel) ?_
    refine lv_iload_n (k := 2) hF.1 hF.2.1 (y_dcd_ok (by decide +kernel)) rfl (lv_at hl 5 rfl) ?_
    refine gald hF hs hT hc 199 96 (by decide) (by decide) hst (by decide +kernel) ?_
    rw [f1]
    refine gast hF hs hT hc 203 400 (by decide) (by decide) hk4 (by decide +kernel) (fun H locs cw hs hc => ?_)
    refine lv_aload_n (k := 0) hF.1 hF.2.1 (y_dcd_ok (by decide +kernel)) rfl (lv_at hl 3 rfl) ?_
    refine ggo (n := 8233) (index := 280) hF hs hc 114 (by decide) rfl 123 (by decide) (by decide +kernel) hv.h123 (by decide +kernel) ?_
    refine lv_iload (i := 4) hF.1 hF.2.1 (y_dcd_ok (by decide +kernel)) (lv_at hl 1 rfl) ?_
    refine lv_iload_n (k := 1) hF.1 hF.2.1 (y_dcd_ok (by decide +kernel)) rfl (lv_at hl 4 rfl) ?_
    refine gast hF hs hT hc 204 400 (by decide) (by decide) hk4 (by decide +kernel) (fun H locs cw hs hc => ?_)
    refine lv_aload_n (k := 0) hF.1 hF.2.1 (y_dcd_ok (by decide +kernel)) rfl (lv_at hl 3 rfl) ?_
    refine ggo (n := 8234) (index := 283) hF hs hc 114 (by decide) rfl 124 (by decide) (by decide +kernel) hv.h124 (by decide +kernel) ?_
    refine lv_iload (i := 4) hF.1 hF.2.1 (y_dcd_ok (by decide +kernel)) (lv_at hl 1 rfl) ?_
    refine lv_aload_n (k := 0) hF.1 hF.2.1 (y_dcd_ok (by decide +kernel)) rfl (lv_at hl 3 rfl) ?_
    refine ggo (n := 8229) (index := 271) hF hs hc 114 (by decide) rfl 119 (by decide) (by decide +kernel) hv.h119 (by decide +kernel) ?_
    refine lv_iload_n (k := 3) hF.1 hF.2.1 (y_dcd_ok (by decide +kernel)) rfl (lv_at hl 2 rfl) ?_
    refine gald hF hs hT hc 201 480 (by decide) (by decide) hxi (by decide +kernel) ?_
    rw [show xup (xup V1 203 k (nI x.a)) 204 k (nI x.m) 201 (96 * x.m + st) = nI x.f from by rw [xup_n _ _ _ (by decide), xup_n _ _ _ (by decide)]; exact f2]
    refine gast hF hs hT hc 205 400 (by decide) (by decide) hk4 (by decide +kernel) (fun H locs cw hs hc => ?_)
    refine lv_aload_n (k := 0) hF.1 hF.2.1 (y_dcd_ok (by decide +kernel)) rfl (lv_at hl 3 rfl) ?_
    refine ggo (n := 8235) (index := 286) hF hs hc 114 (by decide) rfl 125 (by decide) (by decide +kernel) hv.h125 (by decide +kernel) ?_
    refine lv_iload (i := 4) hF.1 hF.2.1 (y_dcd_ok (by decide +kernel)) (lv_at hl 1 rfl) ?_
    refine lv_aload_n (k := 0) hF.1 hF.2.1 (y_dcd_ok (by decide +kernel)) rfl (lv_at hl 3 rfl) ?_
    refine ggo (n := 8230) (index := 274) hF hs hc 114 (by decide) rfl 120 (by decide) (by decide +kernel) hv.h120 (by decide +kernel) ?_
    refine lv_iload_n (k := 3) hF.1 hF.2.1 (y_dcd_ok (by decide +kernel)) rfl (lv_at hl 2 rfl) ?_
    refine glald hF hs hT hc 202 480 (by decide) (by decide) hxi (by decide +kernel) ?_
    rw [f3]
    refine glast hF hs hT hc 206 400 (by decide) (by decide) hk4 (by decide +kernel) (fun H locs cw hs hc => ?_)
    refine lv_aload_n (k := 0) hF.1 hF.2.1 (y_dcd_ok (by decide +kernel)) rfl (lv_at hl 3 rfl) ?_
    refine lv_dup hF.1 hF.2.1 (y_dcd_ok (by decide +kernel)) rfl ?_
    refine ggo (n := 8231) (index := 829) hF hs hc 114 (by decide) rfl 121 (by decide) (by decide +kernel) hv.h121 (by decide +kernel) ?_
    refine lv_iconst (n := 1) (v := 1) hF.1 hF.2.1 (y_dcd_ok (by decide +kernel)) (by decide) ?_
    refine lv_iadd hF.1 hF.2.1 (y_dcd_ok (by decide +kernel)) ?_
    rw [dni_add1 (by omega)]
    refine gpo (n := 8231) (index := 829) hF hs hc 114 (by decide) rfl 121 (by decide) (by decide +kernel) rfl (ty := .int) (by decide +kernel) rfl rfl hv.len (by decide +kernel) (fun H locs cw hs hc => ?_)
    have hc := kW_op hc
    obtain ⟨V2, hV2⟩ : ∃ V2, V2 = xup (xup (xup V1 203 k (nI x.a)) 204 k (nI x.m)) 205 k (nI x.f) := ⟨_, rfl⟩
    obtain ⟨L2, hL2⟩ : ∃ L2, L2 = xupL L1 206 k (nL x.c) := ⟨_, rfl⟩
    rw [← hV2, ← hL2] at hc
    have hsame : ∀ j y, j ≠ k → (kre V2 L2 j y ↔ kre V1 L1 j y) := fun j y hj => by
      rw [hV2, hL2]
      unfold kre
      simp [xup, xupL, upd, vp_updL, hj]
    have hxx : kre V2 L2 k x := by
      rw [hV2, hL2]
      unfold kre
      simp [xup, xupL, upd, vp_updL]
    refine kv _ _ cw tys ls 241 rfl (by decide +kernel) hs ⟨rfl, rfl, V2, L2, by rw [hlen]; exact hc, ⟨fun q hq => ?_, fun q hq => ?_⟩, ?_⟩
    · rw [hV2, xup_n _ _ _ (by omega), xup_n _ _ _ (by omega), xup_n _ _ _ (by omega)]
      exact hns.1 q hq
    · rw [hL2, xupL_n _ _ _ hq]
      exact hns.2 q hq
    · intro j y hj
      unfold jin at hj
      rw [← hat] at hj
      rcases Nat.lt_trichotomy j k with q | q | q
      · rw [List.getElem?_append_left (by rw [List.length_take]; omega), List.getElem?_take_of_lt q] at hj
        exact ⟨(hsame j y (by omega)).mpr (hlo j y q hj), (hro j y hj).2⟩
      · subst q
        rw [List.getElem?_append_right (by rw [List.length_take]; omega), List.length_take, show j - min j K.length = 0 by omega] at hj
        have hj := Option.some.inj hj
        subst hj
        exact ⟨hxx, hx⟩
      · rw [List.getElem?_append_right (by rw [List.length_take]; omega), List.length_take, show j - min k K.length = (j - 1 - k) + 1 by omega, List.getElem?_cons_succ, List.getElem?_drop, show k + (j - 1 - k) = j - 1 by omega] at hj
        have h9 := hhi (j - 1) y (by omega) hj
        rw [show j - 1 + 1 = j by omega] at h9
        exact ⟨(hsame j y (by omega)).mpr h9, (hro (j - 1) y hj).2⟩
  have loop : ∀ (k : Nat), k ≤ K.length → jat K x k = jat K x K.length → ∀ (H : Heap) (locs : List Loc) (cw : va_W) (V1 : Nat → Nat → Int32) (L1 : Nat → Nat → Int64) (ls : Array Slot), xs D s A H locs cw tys → kW ad cI vs V1 L1 cw → kns V V1 L L1 → (∀ j y, j < k → K[j]? = some y → kre V1 L1 j y) → (∀ j y, k ≤ j → K[j]? = some y → kre V1 L1 (j + 1) y) → lv_has ls 8 [(5, .int 1), (4, .int (nI k)), (3, .int (nI (96 * x.m + st))), (0, .ref (ad 114)), (1, .int (nI x.m)), (2, .int (nI st))] → W p l e (y_rm xAdd) s m [Value.ref (ad 114), .int (nI x.m), .int (nI st)].toArray below meth c H locs 0 0 Q (F0 m 16 ls []) := by
    intro k
    induction k with
    | zero =>
      intro hk hat H locs cw V1 L1 ls hs hc hns hlo hhi hl
      refine lv_iload (i := 4) hF.1 hF.2.1 (y_dcd_ok (by decide +kernel)) (lv_at hl 1 rfl) ?_
      refine lv_if_le (off := 166) (tgt := 184) hF.1 hF.2.1 (y_dcd_ok (by decide +kernel)) (by decide) (fun hq => ?_) (fun hq => ?_)
      · exact fin 0 (Nat.zero_le _) hat 1 _ _ cw V1 L1 ls hs hc hns hlo hhi hl
      · exact absurd (by decide) hq
    | succ k ih =>
      intro hk hat H locs cw V1 L1 ls hs hc hns hlo hhi hl
      have hk4 : k < 400 := by omega
      have hk5 : k + 1 < 400 := by omega
      have f1 : V1 199 st = nI x.a := by rw [hns.1 199 (by decide)]; exact ha
      have f2 : V1 201 (96 * x.m + st) = nI x.f := by rw [hns.1 201 (by decide)]; exact hf
      have hKk : K[k]? = some K[k] := List.getElem?_eq_getElem (by omega)
      obtain ⟨y, hy⟩ : ∃ y, y = K[k] := ⟨_, rfl⟩
      rw [← hy] at hKk
      obtain ⟨r1, r2, r3, r4⟩ := hlo k y (by omega) hKk
      obtain ⟨y1, y2, y3, y4⟩ := (hro k y hKk).2
      have hjat : jat K x (k + 1) = if jkl x y then jat K x k else k + 1 := by
        show (match K[k]? with
          | some y => if jkl x y then jat K x k else k + 1
          | none => k + 1) = _
        rw [hKk]
      refine lv_iload (i := 4) hF.1 hF.2.1 (y_dcd_ok (by decide +kernel)) (lv_at hl 1 rfl) ?_
      refine lv_if_le (off := 166) (tgt := 184) hF.1 hF.2.1 (y_dcd_ok (by decide +kernel)) (by decide) (fun hq => ?_) (fun hq => ?_)
      · exact absurd ((dni_leb (j := 0) (by omega) (by omega)).mp hq) (by omega)
      clear hq
      refine lv_iload (i := 5) hF.1 hF.2.1 (y_dcd_ok (by decide +kernel)) (lv_at hl 0 rfl) ?_
      refine lv_if_eq (off := 161) (tgt := 184) hF.1 hF.2.1 (y_dcd_ok (by decide +kernel)) (by decide) (fun hq => ?_) (fun hq => ?_)
      · exact absurd hq (by decide)
      clear hq
      refine lv_iload (i := 4) hF.1 hF.2.1 (y_dcd_ok (by decide +kernel)) (lv_at hl 1 rfl) ?_
      refine lv_iconst (n := 1) (v := 1) hF.1 hF.2.1 (y_dcd_ok (by decide +kernel)) (by decide) ?_
      refine lv_isub hF.1 hF.2.1 (y_dcd_ok (by decide +kernel)) ?_
      rw [dni_sub (by omega)]
      refine lv_istore (nL := 8) (i := 6) hF.1 hF.2.1 (y_dcd_ok (by decide +kernel)) hl (by decide) rfl (fun ls hl => ?_)
      have at102 : ∀ (d : Int32), (d ≤ 0 ↔ ¬ jkl x y) → ∀ ls : Array Slot, lv_has ls 8 [(6, .int (nI k)), (5, .int 1), (4, .int (nI (k + 1))), (3, .int (nI (96 * x.m + st))), (0, .ref (ad 114)), (1, .int (nI x.m)), (2, .int (nI st))] → W p l e (y_rm xAdd) s m [Value.ref (ad 114), .int (nI x.m), .int (nI st)].toArray below meth c H locs 0 0 Q (F0 m 102 ls [.int d]) := by
        intro d hd ls hl
        refine lv_istore (nL := 8) (i := 7) hF.1 hF.2.1 (y_dcd_ok (by decide +kernel)) hl (by decide) rfl (fun ls hl => ?_)
        refine lv_iload (i := 7) hF.1 hF.2.1 (y_dcd_ok (by decide +kernel)) (lv_at hl 0 rfl) ?_
        refine lv_if_le (off := 7) (tgt := 113) hF.1 hF.2.1 (y_dcd_ok (by decide +kernel)) (by decide) (fun hq => ?_) (fun hq => ?_)
        · have hn := hd.mp hq
          clear hq
          rw [if_neg hn] at hjat
          refine lv_iconst (n := 0) (v := 0) hF.1 hF.2.1 (y_dcd_ok (by decide +kernel)) (by decide) ?_
          refine lv_istore (nL := 8) (i := 5) hF.1 hF.2.1 (y_dcd_ok (by decide +kernel)) hl (by decide) rfl (fun ls hl => ?_)
          refine lv_iload (i := 5) hF.1 hF.2.1 (y_dcd_ok (by decide +kernel)) (lv_at hl 0 rfl) ?_
          refine lv_if_eq (off := 63) (tgt := 181) hF.1 hF.2.1 (y_dcd_ok (by decide +kernel)) (by decide) (fun hq => ?_) (fun hq => ?_)
          · show W _ _ _ _ _ _ _ _ _ _ _ _ _ _ _ (F0 m 181 ls [])
            refine lv_goto (off := (-165)) (tgt := 16) hF.1 hF.2.1 (y_dcd_ok (by decide +kernel)) (by decide) ?_
            refine lv_iload (i := 4) hF.1 hF.2.1 (y_dcd_ok (by decide +kernel)) (lv_at hl 3 rfl) ?_
            refine lv_if_le (off := 166) (tgt := 184) hF.1 hF.2.1 (y_dcd_ok (by decide +kernel)) (by decide) (fun hq => ?_) (fun hq => ?_)
            · exact absurd ((dni_leb (j := 0) (by omega) (by omega)).mp hq) (by omega)
            clear hq
            refine lv_iload (i := 5) hF.1 hF.2.1 (y_dcd_ok (by decide +kernel)) (lv_at hl 0 rfl) ?_
            refine lv_if_eq (off := 161) (tgt := 184) hF.1 hF.2.1 (y_dcd_ok (by decide +kernel)) (by decide) (fun hq => ?_) (fun hq => ?_)
            · exact fin (k + 1) hk (by rw [← hat, hjat]) 0 _ _ cw V1 L1 ls hs hc hns hlo hhi (lv_sub hl [0, 3, 4, 5, 6, 7] rfl)
            · exact absurd rfl hq
          · exact absurd rfl hq
        have hyk : jkl x y := by
          by_cases z : jkl x y
          · exact z
          · exact absurd (hd.mpr z) hq
        clear hq
        rw [if_pos hyk] at hjat
        refine lv_iconst (n := 1) (v := 1) hF.1 hF.2.1 (y_dcd_ok (by decide +kernel)) (by decide) ?_
        refine lv_goto (off := 4) (tgt := 114) hF.1 hF.2.1 (y_dcd_ok (by decide +kernel)) (by decide) ?_
        refine lv_istore (nL := 8) (i := 5) hF.1 hF.2.1 (y_dcd_ok (by decide +kernel)) hl (by decide) rfl (fun ls hl => ?_)
        refine lv_iload (i := 5) hF.1 hF.2.1 (y_dcd_ok (by decide +kernel)) (lv_at hl 0 rfl) ?_
        refine lv_if_eq (off := 63) (tgt := 181) hF.1 hF.2.1 (y_dcd_ok (by decide +kernel)) (by decide) (fun hq => ?_) (fun hq => ?_)
        · exact absurd hq (by decide)
        clear hq
        refine lv_aload_n (k := 0) hF.1 hF.2.1 (y_dcd_ok (by decide +kernel)) rfl (lv_at hl 5 rfl) ?_
        refine ggo (n := 8232) (index := 277) hF hs hc 114 (by decide) rfl 122 (by decide) (by decide +kernel) hv.h122 (by decide +kernel) ?_
        refine lv_iload (i := 4) hF.1 hF.2.1 (y_dcd_ok (by decide +kernel)) (lv_at hl 3 rfl) ?_
        refine lv_aload_n (k := 0) hF.1 hF.2.1 (y_dcd_ok (by decide +kernel)) rfl (lv_at hl 5 rfl) ?_
        refine ggo (n := 8232) (index := 277) hF hs hc 114 (by decide) rfl 122 (by decide) (by decide +kernel) hv.h122 (by decide +kernel) ?_
        refine lv_iload (i := 6) hF.1 hF.2.1 (y_dcd_ok (by decide +kernel)) (lv_at hl 2 rfl) ?_
        refine gald hF hs hT hc 203 400 (by decide) (by decide) hk4 (by decide +kernel) ?_
        refine gast hF hs hT hc 203 400 (by decide) (by decide) hk5 (by decide +kernel) (fun H locs cw hs hc => ?_)
        refine lv_aload_n (k := 0) hF.1 hF.2.1 (y_dcd_ok (by decide +kernel)) rfl (lv_at hl 5 rfl) ?_
        refine ggo (n := 8233) (index := 280) hF hs hc 114 (by decide) rfl 123 (by decide) (by decide +kernel) hv.h123 (by decide +kernel) ?_
        refine lv_iload (i := 4) hF.1 hF.2.1 (y_dcd_ok (by decide +kernel)) (lv_at hl 3 rfl) ?_
        refine lv_aload_n (k := 0) hF.1 hF.2.1 (y_dcd_ok (by decide +kernel)) rfl (lv_at hl 5 rfl) ?_
        refine ggo (n := 8233) (index := 280) hF hs hc 114 (by decide) rfl 123 (by decide) (by decide +kernel) hv.h123 (by decide +kernel) ?_
        refine lv_iload (i := 6) hF.1 hF.2.1 (y_dcd_ok (by decide +kernel)) (lv_at hl 2 rfl) ?_
        refine gald hF hs hT hc 204 400 (by decide) (by decide) hk4 (by decide +kernel) ?_
        refine gast hF hs hT hc 204 400 (by decide) (by decide) hk5 (by decide +kernel) (fun H locs cw hs hc => ?_)
        refine lv_aload_n (k := 0) hF.1 hF.2.1 (y_dcd_ok (by decide +kernel)) rfl (lv_at hl 5 rfl) ?_
        refine ggo (n := 8234) (index := 283) hF hs hc 114 (by decide) rfl 124 (by decide) (by decide +kernel) hv.h124 (by decide +kernel) ?_
        refine lv_iload (i := 4) hF.1 hF.2.1 (y_dcd_ok (by decide +kernel)) (lv_at hl 3 rfl) ?_
        refine lv_aload_n (k := 0) hF.1 hF.2.1 (y_dcd_ok (by decide +kernel)) rfl (lv_at hl 5 rfl) ?_
        refine ggo (n := 8234) (index := 283) hF hs hc 114 (by decide) rfl 124 (by decide) (by decide +kernel) hv.h124 (by decide +kernel) ?_
        refine lv_iload (i := 6) hF.1 hF.2.1 (y_dcd_ok (by decide +kernel)) (lv_at hl 2 rfl) ?_
        refine gald hF hs hT hc 205 400 (by decide) (by decide) hk4 (by decide +kernel) ?_
        refine gast hF hs hT hc 205 400 (by decide) (by decide) hk5 (by decide +kernel) (fun H locs cw hs hc => ?_)
        refine lv_aload_n (k := 0) hF.1 hF.2.1 (y_dcd_ok (by decide +kernel)) rfl (lv_at hl 5 rfl) ?_
        refine ggo (n := 8235) (index := 286) hF hs hc 114 (by decide) rfl 125 (by decide) (by decide +kernel) hv.h125 (by decide +kernel) ?_
        refine lv_iload (i := 4) hF.1 hF.2.1 (y_dcd_ok (by decide +kernel)) (lv_at hl 3 rfl) ?_
        refine lv_aload_n (k := 0) hF.1 hF.2.1 (y_dcd_ok (by decide +kernel)) rfl (lv_at hl 5 rfl) ?_
        refine ggo (n := 8235) (index := 286) hF hs hc 114 (by decide) rfl 125 (by decide) (by decide +kernel) hv.h125 (by decide +kernel) ?_
        refine lv_iload (i := 6) hF.1 hF.2.1 (y_dcd_ok (by decide +kernel)) (lv_at hl 2 rfl) ?_
        refine glald hF hs hT hc 206 400 (by decide) (by decide) hk4 (by decide +kernel) ?_
        refine glast hF hs hT hc 206 400 (by decide) (by decide) hk5 (by decide +kernel) (fun H locs cw hs hc => ?_)
        have g1 : xup V1 203 (k + 1) (V1 203 k) 204 k = V1 204 k := by rw [xup_n _ _ _ (by decide)]
        have g2 : xup (xup V1 203 (k + 1) (V1 203 k)) 204 (k + 1) (V1 204 k) 205 k = V1 205 k := by rw [xup_n _ _ _ (by decide), xup_n _ _ _ (by decide)]
        rw [g1, g2] at hc
        obtain ⟨V2, hV2⟩ : ∃ V2, V2 = xup (xup (xup V1 203 (k + 1) (V1 203 k)) 204 (k + 1) (V1 204 k)) 205 (k + 1) (V1 205 k) := ⟨_, rfl⟩
        obtain ⟨L2, hL2⟩ : ∃ L2, L2 = xupL L1 206 (k + 1) (L1 206 k) := ⟨_, rfl⟩
        rw [← hV2, ← hL2] at hc
        have hsame : ∀ j y, j ≠ k + 1 → (kre V2 L2 j y ↔ kre V1 L1 j y) := fun j y hj => by
          rw [hV2, hL2]
          unfold kre
          simp [xup, xupL, upd, vp_updL, hj]
        have hcp : ∀ y, kre V2 L2 (k + 1) y ↔ kre V1 L1 k y := fun y => by
          rw [hV2, hL2]
          unfold kre
          simp [xup, xupL, upd, vp_updL]
        refine lv_iload (i := 6) hF.1 hF.2.1 (y_dcd_ok (by decide +kernel)) (lv_at hl 2 rfl) ?_
        refine lv_istore (nL := 8) (i := 4) hF.1 hF.2.1 (y_dcd_ok (by decide +kernel)) hl (by decide) rfl (fun ls hl => ?_)
        refine lv_goto (off := (-165)) (tgt := 16) hF.1 hF.2.1 (y_dcd_ok (by decide +kernel)) (by decide) ?_
        refine ih (by omega) (by rw [← hat, hjat]) _ _ cw V2 L2 ls hs hc ⟨fun q hq => by rw [hV2, xup_n _ _ _ (by omega), xup_n _ _ _ (by omega), xup_n _ _ _ (by omega)]; exact hns.1 q hq, fun q hq => by rw [hL2, xupL_n _ _ _ hq]; exact hns.2 q hq⟩ (fun j z hj hz => (hsame j z (by omega)).mpr (hlo j z (by omega) hz)) (fun j z hj hz => ?_) (lv_sub hl [1, 0, 4, 5, 6, 7] rfl)
        by_cases ej : j = k
        · subst ej
          rw [hKk] at hz
          rw [← Option.some.inj hz]
          exact (hcp y).mpr ⟨r1, r2, r3, r4⟩
        · exact (hsame (j + 1) z (by omega)).mpr (hhi j z (by omega) hz)
      refine lv_aload_n (k := 0) hF.1 hF.2.1 (y_dcd_ok (by decide +kernel)) rfl (lv_at hl 4 rfl) ?_
      refine ggo (n := 8232) (index := 277) hF hs hc 114 (by decide) rfl 122 (by decide) (by decide +kernel) hv.h122 (by decide +kernel) ?_
      refine lv_iload (i := 6) hF.1 hF.2.1 (y_dcd_ok (by decide +kernel)) (lv_at hl 0 rfl) ?_
      refine gald hF hs hT hc 203 400 (by decide) (by decide) hk4 (by decide +kernel) ?_
      rw [r1]
      refine lv_aload_n (k := 0) hF.1 hF.2.1 (y_dcd_ok (by decide +kernel)) rfl (lv_at hl 4 rfl) ?_
      refine ggo (n := 8227) (index := 265) hF hs hc 114 (by decide) rfl 117 (by decide) (by decide +kernel) hv.h117 (by decide +kernel) ?_
      refine lv_iload_n (k := 2) hF.1 hF.2.1 (y_dcd_ok (by decide +kernel)) rfl (lv_at hl 6 rfl) ?_
      refine gald hF hs hT hc 199 96 (by decide) (by decide) hst (by decide +kernel) ?_
      rw [f1]
      refine lv_icmp_eq (off := 20) (tgt := 65) hF.1 hF.2.1 (y_dcd_ok (by decide +kernel)) (by decide) (fun hq => ?_) (fun hq => ?_)
      rotate_left
      · have hne : y.a ≠ x.a := fun z => hq (by rw [z])
        clear hq
        refine lv_aload_n (k := 0) hF.1 hF.2.1 (y_dcd_ok (by decide +kernel)) rfl (lv_at hl 4 rfl) ?_
        refine ggo (n := 8232) (index := 277) hF hs hc 114 (by decide) rfl 122 (by decide) (by decide +kernel) hv.h122 (by decide +kernel) ?_
        refine lv_iload (i := 6) hF.1 hF.2.1 (y_dcd_ok (by decide +kernel)) (lv_at hl 0 rfl) ?_
        refine gald hF hs hT hc 203 400 (by decide) (by decide) hk4 (by decide +kernel) ?_
        rw [r1]
        refine lv_aload_n (k := 0) hF.1 hF.2.1 (y_dcd_ok (by decide +kernel)) rfl (lv_at hl 4 rfl) ?_
        refine ggo (n := 8227) (index := 265) hF hs hc 114 (by decide) rfl 117 (by decide) (by decide +kernel) hv.h117 (by decide +kernel) ?_
        refine lv_iload_n (k := 2) hF.1 hF.2.1 (y_dcd_ok (by decide +kernel)) rfl (lv_at hl 6 rfl) ?_
        refine gald hF hs hT hc 199 96 (by decide) (by decide) hst (by decide +kernel) ?_
        rw [f1]
        refine lv_isub hF.1 hF.2.1 (y_dcd_ok (by decide +kernel)) ?_
        refine lv_goto (off := 40) (tgt := 102) hF.1 hF.2.1 (y_dcd_ok (by decide +kernel)) (by decide) ?_
        refine at102 _ ?_ ls (lv_sub hl [0, 1, 2, 3, 4, 5, 6] rfl)
        rw [kdif (by omega) (by omega)]
        unfold jkl
        omega
      have ea := dni_injb (by omega) (by omega) hq
      clear hq
      refine lv_aload_n (k := 0) hF.1 hF.2.1 (y_dcd_ok (by decide +kernel)) rfl (lv_at hl 4 rfl) ?_
      refine ggo (n := 8233) (index := 280) hF hs hc 114 (by decide) rfl 123 (by decide) (by decide +kernel) hv.h123 (by decide +kernel) ?_
      refine lv_iload (i := 6) hF.1 hF.2.1 (y_dcd_ok (by decide +kernel)) (lv_at hl 0 rfl) ?_
      refine gald hF hs hT hc 204 400 (by decide) (by decide) hk4 (by decide +kernel) ?_
      rw [r2]
      refine lv_iload_n (k := 1) hF.1 hF.2.1 (y_dcd_ok (by decide +kernel)) rfl (lv_at hl 5 rfl) ?_
      refine lv_icmp_eq (off := 15) (tgt := 88) hF.1 hF.2.1 (y_dcd_ok (by decide +kernel)) (by decide) (fun hq => ?_) (fun hq => ?_)
      rotate_left
      · have hne : y.m ≠ x.m := fun z => hq (by rw [z])
        clear hq
        refine lv_aload_n (k := 0) hF.1 hF.2.1 (y_dcd_ok (by decide +kernel)) rfl (lv_at hl 4 rfl) ?_
        refine ggo (n := 8233) (index := 280) hF hs hc 114 (by decide) rfl 123 (by decide) (by decide +kernel) hv.h123 (by decide +kernel) ?_
        refine lv_iload (i := 6) hF.1 hF.2.1 (y_dcd_ok (by decide +kernel)) (lv_at hl 0 rfl) ?_
        refine gald hF hs hT hc 204 400 (by decide) (by decide) hk4 (by decide +kernel) ?_
        rw [r2]
        refine lv_iload_n (k := 1) hF.1 hF.2.1 (y_dcd_ok (by decide +kernel)) rfl (lv_at hl 5 rfl) ?_
        refine lv_isub hF.1 hF.2.1 (y_dcd_ok (by decide +kernel)) ?_
        refine lv_goto (off := 17) (tgt := 102) hF.1 hF.2.1 (y_dcd_ok (by decide +kernel)) (by decide) ?_
        refine at102 _ ?_ ls (lv_sub hl [0, 1, 2, 3, 4, 5, 6] rfl)
        rw [kdif (by omega) (by omega)]
        unfold jkl
        omega
      have em := dni_injb (by omega) (by omega) hq
      clear hq
      refine lv_aload_n (k := 0) hF.1 hF.2.1 (y_dcd_ok (by decide +kernel)) rfl (lv_at hl 4 rfl) ?_
      refine ggo (n := 8234) (index := 283) hF hs hc 114 (by decide) rfl 124 (by decide) (by decide +kernel) hv.h124 (by decide +kernel) ?_
      refine lv_iload (i := 6) hF.1 hF.2.1 (y_dcd_ok (by decide +kernel)) (lv_at hl 0 rfl) ?_
      refine gald hF hs hT hc 205 400 (by decide) (by decide) hk4 (by decide +kernel) ?_
      rw [r3]
      refine lv_aload_n (k := 0) hF.1 hF.2.1 (y_dcd_ok (by decide +kernel)) rfl (lv_at hl 4 rfl) ?_
      refine ggo (n := 8229) (index := 271) hF hs hc 114 (by decide) rfl 119 (by decide) (by decide +kernel) hv.h119 (by decide +kernel) ?_
      refine lv_iload_n (k := 3) hF.1 hF.2.1 (y_dcd_ok (by decide +kernel)) rfl (lv_at hl 3 rfl) ?_
      refine gald hF hs hT hc 201 480 (by decide) (by decide) hxi (by decide +kernel) ?_
      rw [f2]
      refine lv_isub hF.1 hF.2.1 (y_dcd_ok (by decide +kernel)) ?_
      refine at102 _ ?_ ls (lv_sub hl [0, 1, 2, 3, 4, 5, 6] rfl)
      rw [kdif (by omega) (by omega)]
      unfold jkl
      omega
  refine lv_bipush (n := 96) (v := 96) hF.1 hF.2.1 (y_dcd_ok (by decide +kernel)) (by decide) ?_
  refine lv_iload_n (k := 1) hF.1 hF.2.1 (y_dcd_ok (by decide +kernel)) rfl (lv_at hl 1 rfl) ?_
  refine lv_imul hF.1 hF.2.1 (y_dcd_ok (by decide +kernel)) ?_
  refine lv_iload_n (k := 2) hF.1 hF.2.1 (y_dcd_ok (by decide +kernel)) rfl (lv_at hl 2 rfl) ?_
  refine lv_iadd hF.1 hF.2.1 (y_dcd_ok (by decide +kernel)) ?_
  rw [kpl (by omega) (by omega)]
  refine lv_istore_n (nL := 8) (k := 3) hF.1 hF.2.1 (y_dcd_ok (by decide +kernel)) rfl hl (by decide) rfl (fun ls hl => ?_)
  refine lv_aload_n (k := 0) hF.1 hF.2.1 (y_dcd_ok (by decide +kernel)) rfl (lv_at hl 1 rfl) ?_
  refine ggo (n := 8231) (index := 829) hF hs hc 114 (by decide) rfl 121 (by decide) (by decide +kernel) hv.h121 (by decide +kernel) ?_
  refine lv_istore (nL := 8) (i := 4) hF.1 hF.2.1 (y_dcd_ok (by decide +kernel)) hl (by decide) rfl (fun ls hl => ?_)
  refine lv_iconst (n := 1) (v := 1) hF.1 hF.2.1 (y_dcd_ok (by decide +kernel)) (by decide) ?_
  refine lv_istore (nL := 8) (i := 5) hF.1 hF.2.1 (y_dcd_ok (by decide +kernel)) hl (by decide) rfl (fun ls hl => ?_)
  exact loop K.length (Nat.le_refl _) rfl _ _ cw V L ls hs hc ⟨fun _ _ => rfl, fun _ _ => rfl⟩ (fun j y _ hj => (hro j y hj).1) (fun j y hj hy => by rw [List.getElem?_eq_none hj] at hy; cases hy) (lv_sub hl [0, 1, 2, 3, 4, 5] rfl)
end ZC
