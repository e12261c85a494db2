-- journeys of the reference: goBehind, findJourneys
theorem kpl2 {g o k : Nat} (hg : g < 10) (ho : o < 100) (hk : k < 100) : 96 * nI g + 8 * nI o + nI k = nI (96 * g + (8 * o + k)) := by
  rw [show (96 : Int32) = nI 96 by decide, show (8 : Int32) = nI 8 by decide, dni_mul (by omega) (by omega), dni_mul (by omega) (by omega), dni_plus (by omega) (by omega), dni_plus (by omega) (by omega), Nat.add_assoc]
abbrev xGoB : yMR := xmr ⟨"RailwayHouseModel", "goBehind", "(III)V"⟩ prog_14_method_151_code 9 none ⟨3, 0, 0, 114⟩ 12
abbrev xFiJ : yMR := xmr ⟨"RailwayHouseModel", "findJourneys", "(II)V"⟩ prog_14_method_152_code 6 none ⟨4, 0, 0, 142⟩ 12
theorem ktm_st {B : jB} {g g' : Nat} {V V1 : Nat → Nat → Int32} {L L1 : Nat → Nat → Int64} (h : kst g V V1 L L1) (hg : g' ≠ g) (hB : ktm B g' (V 201) (L 202)) : ktm B g' (V1 201) (L1 202) := fun p hp => by
  have := h.2.2 (96 * g' + p) (by omega)
  rw [this.1, this.2]
  exact hB p hp
section ZB
variable {l : Launch} {D : va_G} {b : Nat → Nat} {cw : va_W} {tys : List (ClassId × FieldType)} {sz : Nat} {ad : Nat → Nat} {cI : Nat → ClassId} {V : Nat → Nat → Int32} {L : Nat → Nat → Int64}
set_option maxHeartbeats 4000000 in
theorem kM_gob {op : Int32} {vs : List Value} {X : jT} (hv : kMv ad X.n op vs) (hX : kVc X V) (hT : xgT kI kJ cI tys) (hc : kW ad cI vs V L cw) {g r i : Nat} (hg : g + 1 ≤ 4) (hr : r < X.n) (hi : i < X.S r) {B P : jB} (hB : ktm B (g + 1) (V 201) (L 202)) (hP : ktm P g (V 201) (L 202)) (hPb : ∀ p x, P p = some x → x.1 < 5000 ∧ x.2 < 2 ^ 40) : Met l (y_y xGoB) (y_ws ztb xGoB) (y_rm xGoB) (y_Pc znw b zcls D cw tys sz [.ref (ad 114), .int (nI (g + 1)), .int (nI r), .int (nI i)]) (y_Q zcls D (fun cw' tys' rv => rv = none ∧ tys' = tys ∧ ∃ V' L', kW ad cI vs V' L' cw' ∧ kst (g + 1) V V' L L' ∧ ∀ fr wh, ktm (jgo X fr wh (some P) r i B) (g + 1) (V' 201) (L' 202)) cw sz) 0 0 (va_A cw sz) := by
  refine xMet (tb := ytb yw00) (mr := xGoB) yo_yr220 (fun x hx => by cases hx) (Nat.le_of_ble_eq_true rfl) ?_
  intro p e s m below meth c Q ls hsz hF hs hl kv ki
  have hl : lv_has ls 9 [(0, .ref (ad 114)), (1, .int (nI (g + 1))), (2, .int (nI r)), (3, .int (nI i))] := hl
  generalize va_A cw sz = A at *
  have hn := hX.n
  have h8 := (hX.S r (by omega)).2
  have hp : 8 * r + i < 96 := by omega
  have s1 := hX.st _ hp
  obtain ⟨st, est⟩ : ∃ st, st = X.st (8 * r + i) := ⟨_, rfl⟩
  rw [← est] at s1
  have loopO : ∀ (d o : Nat), o + d = X.n → ∀ (H : Heap) (locs : List Loc) (cw : va_W) (V1 : Nat → Nat → Int32) (L1 : Nat → Nat → Int64) (B1 : jB) (ls : Array Slot), xs D s A H locs cw tys → kW ad cI vs V1 L1 cw → kst (g + 1) V V1 L L1 → ktm B1 (g + 1) (V1 201) (L1 202) → (jfo X P r i o).foldl (jri X r i) B1 = (jfo X P r i 0).foldl (jri X r i) B → lv_has ls 9 [(5, .int (nI o)), (4, .int (nI st)), (0, .ref (ad 114)), (1, .int (nI (g + 1))), (2, .int (nI r)), (3, .int (nI i))] → W p l e (y_rm xGoB) s m [Value.ref (ad 114), .int (nI (g + 1)), .int (nI r), .int (nI i)].toArray below meth c H locs 0 0 Q (F0 m 16 ls []) := by
    intro d
    induction d with
    | zero =>
      intro o hod H locs cw V1 L1 B1 ls hs hc hst hB1 hfin hl
      refine lv_iload (i := 5) hF.1 hF.2.1 (y_dcd_ok (by decide +kernel)) (lv_at hl 0 rfl) ?_
      refine lv_aload_n (k := 0) hF.1 hF.2.1 (y_dcd_ok (by decide +kernel)) rfl (lv_at hl 2 rfl) ?_
      refine ggo (n := 8223) (index := 812) hF hs hc 114 (by decide) rfl 113 (by decide) (by decide +kernel) hv.h113 (by decide +kernel) ?_
      refine lv_icmp_ge (off := 149) (tgt := 171) hF.1 hF.2.1 (y_dcd_ok (by decide +kernel)) (by decide) (fun hq => ?_) (fun hq => ?_)
      · rw [jfo_n X P r i (by omega)] at hfin
        have hfin : B1 = (jfo X P r i 0).foldl (jri X r i) B := hfin
        exact kv _ _ cw tys ls 171 rfl (by decide +kernel) hs ⟨rfl, rfl, V1, L1, hc, hst, fun fr wh => by rw [show jgo X fr wh (some P) r i B = (jfo X P r i 0).foldl (jri X r i) B from rfl, ← hfin]; exact hB1⟩
      · exact absurd ((dni_le (by omega) (by omega)).mpr (by omega)) hq
    | succ d ih =>
      intro o hod H locs cw V1 L1 B1 ls hs hc hst hB1 hfin hl
      have ho12 : o < 12 := by omega
      rw [jfo_s X P r i (show o < X.n by omega)] at hfin
      refine lv_iload (i := 5) hF.1 hF.2.1 (y_dcd_ok (by decide +kernel)) (lv_at hl 0 rfl) ?_
      refine lv_aload_n (k := 0) hF.1 hF.2.1 (y_dcd_ok (by decide +kernel)) rfl (lv_at hl 2 rfl) ?_
      refine ggo (n := 8223) (index := 812) hF hs hc 114 (by decide) rfl 113 (by decide) (by decide +kernel) hv.h113 (by decide +kernel) ?_
      refine lv_icmp_ge (off := 149) (tgt := 171) hF.1 hF.2.1 (y_dcd_ok (by decide +kernel)) (by decide) (fun hq => ?_) (fun hq => ?_)
      · exact absurd ((dni_le (by omega) (by omega)).mp hq) (by omega)
      clear hq
      have hSo := hX.S o ho12
      have loopK : ∀ (dk k : Nat), k + dk = max (X.S o) 1 → ∀ (H : Heap) (locs : List Loc) (cw : va_W) (V1 : Nat → Nat → Int32) (L1 : Nat → Nat → Int64) (B1 : jB) (ls : Array Slot), xs D s A H locs cw tys → kW ad cI vs V1 L1 cw → kst (g + 1) V V1 L L1 → ktm B1 (g + 1) (V1 201) (L1 202) → ((if o = r then [] else jfk X P r i o k) ++ jfo X P r i (o + 1)).foldl (jri X r i) B1 = (jfo X P r i 0).foldl (jri X r i) B → lv_has ls 9 [(6, .int (nI k)), (5, .int (nI o)), (4, .int (nI st)), (0, .ref (ad 114)), (1, .int (nI (g + 1))), (2, .int (nI r)), (3, .int (nI i))] → W p l e (y_rm xGoB) s m [Value.ref (ad 114), .int (nI (g + 1)), .int (nI r), .int (nI i)].toArray below meth c H locs 0 0 Q (F0 m 28 ls []) := by
        intro dk
        induction dk with
        | zero =>
          intro k hkd H locs cw V1 L1 B1 ls hs hc hst hB1 hfin hl
          have eS : V1 197 o = nI (X.S o) := by rw [hst.1 197 (by decide)]; exact hSo.1
          refine lv_iload (i := 6) hF.1 hF.2.1 (y_dcd_ok (by decide +kernel)) (lv_at hl 0 rfl) ?_
          refine lv_aload_n (k := 0) hF.1 hF.2.1 (y_dcd_ok (by decide +kernel)) rfl (lv_at hl 3 rfl) ?_
          refine ggo (n := 8225) (index := 259) hF hs hc 114 (by decide) rfl 115 (by decide) (by decide +kernel) hv.h115 (by decide +kernel) ?_
          refine lv_iload (i := 5) hF.1 hF.2.1 (y_dcd_ok (by decide +kernel)) (lv_at hl 1 rfl) ?_
          refine gald hF hs hT hc 197 12 (by decide) (by decide) ho12 (by decide +kernel) ?_
          rw [eS]
          refine lv_icmp_ge (off := 128) (tgt := 165) hF.1 hF.2.1 (y_dcd_ok (by decide +kernel)) (by decide) (fun hq => ?_) (fun hq => ?_)
          · have e0 : (if o = r then [] else jfk X P r i o k) = [] := by
              split
              · rfl
              · exact jfk_n X P r i o (by omega)
            rw [e0, List.nil_append] at hfin
            refine lv_iinc (nL := 9) (i := 5) (n := 1) (k := 1) (v := nI (o + 1)) hF.1 hF.2.1 (y_dcd_ok (by decide +kernel)) hl rfl (dni_add (by omega)) (by decide) rfl (fun ls hl => ?_)
            refine lv_goto (off := (-152)) (tgt := 16) hF.1 hF.2.1 (y_dcd_ok (by decide +kernel)) (by decide) ?_
            exact ih (o + 1) (by omega) _ _ cw V1 L1 B1 ls hs hc hst hB1 hfin (lv_sub hl [0, 2, 3, 4, 5, 6] rfl)
          · exact absurd ((dni_le (by omega) (by omega)).mpr (by omega)) hq
        | succ dk ihk =>
          intro k hkd H locs cw V1 L1 B1 ls hs hc hst hB1 hfin hl
          have eS : V1 197 o = nI (X.S o) := by rw [hst.1 197 (by decide)]; exact hSo.1
          refine lv_iload (i := 6) hF.1 hF.2.1 (y_dcd_ok (by decide +kernel)) (lv_at hl 0 rfl) ?_
          refine lv_aload_n (k := 0) hF.1 hF.2.1 (y_dcd_ok (by decide +kernel)) rfl (lv_at hl 3 rfl) ?_
          refine ggo (n := 8225) (index := 259) hF hs hc 114 (by decide) rfl 115 (by decide) (by decide +kernel) hv.h115 (by decide +kernel) ?_
          refine lv_iload (i := 5) hF.1 hF.2.1 (y_dcd_ok (by decide +kernel)) (lv_at hl 1 rfl) ?_
          refine gald hF hs hT hc 197 12 (by decide) (by decide) ho12 (by decide +kernel) ?_
          rw [eS]
          refine lv_icmp_ge (off := 128) (tgt := 165) hF.1 hF.2.1 (y_dcd_ok (by decide +kernel)) (by decide) (fun hq => ?_) (fun hq => ?_)
          · have hge := (dni_le (by omega) (by omega)).mp hq
            have e0 : (if o = r then [] else jfk X P r i o k) = [] := by
              split
              · rfl
              · exact jfk_n X P r i o hge
            rw [e0, List.nil_append] at hfin
            refine lv_iinc (nL := 9) (i := 5) (n := 1) (k := 1) (v := nI (o + 1)) hF.1 hF.2.1 (y_dcd_ok (by decide +kernel)) hl rfl (dni_add (by omega)) (by decide) rfl (fun ls hl => ?_)
            refine lv_goto (off := (-152)) (tgt := 16) hF.1 hF.2.1 (y_dcd_ok (by decide +kernel)) (by decide) ?_
            exact ih (o + 1) (by omega) _ _ cw V1 L1 B1 ls hs hc hst hB1 hfin (lv_sub hl [0, 2, 3, 4, 5, 6] rfl)
          have hkS : k < X.S o := Nat.not_le.mp (fun z => hq ((dni_le (by omega) (by omega)).mpr z))
          clear hq
          refine lv_iload (i := 5) hF.1 hF.2.1 (y_dcd_ok (by decide +kernel)) (lv_at hl 1 rfl) ?_
          refine lv_iload_n (k := 2) hF.1 hF.2.1 (y_dcd_ok (by decide +kernel)) rfl (lv_at hl 5 rfl) ?_
          refine lv_icmp_eq (off := 122) (tgt := 165) hF.1 hF.2.1 (y_dcd_ok (by decide +kernel)) (by decide) (fun hq => ?_) (fun hq => ?_)
          · have e0 := dni_injb (by omega) (by omega) hq
            rw [if_pos e0, List.nil_append] at hfin
            refine lv_iinc (nL := 9) (i := 5) (n := 1) (k := 1) (v := nI (o + 1)) hF.1 hF.2.1 (y_dcd_ok (by decide +kernel)) hl rfl (dni_add (by omega)) (by decide) rfl (fun ls hl => ?_)
            refine lv_goto (off := (-152)) (tgt := 16) hF.1 hF.2.1 (y_dcd_ok (by decide +kernel)) (by decide) ?_
            exact ih (o + 1) (by omega) _ _ cw V1 L1 B1 ls hs hc hst hB1 hfin (lv_sub hl [0, 2, 3, 4, 5, 6] rfl)
          have hor : o ≠ r := fun z => hq (by rw [z])
          clear hq
          rw [if_neg hor, jfk_s X P r i o hkS] at hfin
          have hX1 := kVc_st hst hX
          have hpo : 8 * o + k < 96 := by omega
          have hxi : 96 * g + (8 * o + k) < 480 := by omega
          have hP1 := ktm_st hst (show g ≠ g + 1 by omega) hP
          have hPp := hP1 _ hpo
          have t1 := hX1.st _ hpo
          have t2 := hX1.ar _ hpo
          have t3 := hX1.dp _ hp
          have t4 := hX1.ch st s1.2
          have next : ∀ (H : Heap) (locs : List Loc) (cw : va_W) (V2 : Nat → Nat → Int32) (L2 : Nat → Nat → Int64) (B2 : jB) (ls : Array Slot), xs D s A H locs cw tys → kW ad cI vs V2 L2 cw → kst (g + 1) V V2 L L2 → ktm B2 (g + 1) (V2 201) (L2 202) → (jfit X P r i o k).toList.foldl (jri X r i) B1 = B2 → lv_has ls 9 [(6, .int (nI k)), (5, .int (nI o)), (4, .int (nI st)), (0, .ref (ad 114)), (1, .int (nI (g + 1))), (2, .int (nI r)), (3, .int (nI i))] → W p l e (y_rm xGoB) s m [Value.ref (ad 114), .int (nI (g + 1)), .int (nI r), .int (nI i)].toArray below meth c H locs 0 0 Q (F0 m 159 ls []) := by
            intro H locs cw V2 L2 B2 ls hs hc hst hB2 hstep hl
            refine lv_iinc (nL := 9) (i := 6) (n := 1) (k := 0) (v := nI (k + 1)) hF.1 hF.2.1 (y_dcd_ok (by decide +kernel)) hl rfl (dni_add (by omega)) (by decide) rfl (fun ls hl => ?_)
            refine lv_goto (off := (-134)) (tgt := 28) hF.1 hF.2.1 (y_dcd_ok (by decide +kernel)) (by decide) ?_
            refine ihk (k + 1) (by omega) _ _ cw V2 L2 B2 ls hs hc hst hB2 ?_ hl
            rw [List.append_assoc, List.foldl_append, hstep] at hfin
            rw [if_neg hor]
            exact hfin
          refine lv_bipush (n := 96) (v := 96) hF.1 hF.2.1 (y_dcd_ok (by decide +kernel)) (by decide) ?_
          refine lv_iload_n (k := 1) hF.1 hF.2.1 (y_dcd_ok (by decide +kernel)) rfl (lv_at hl 4 rfl) ?_
          refine lv_iconst (n := 1) (v := 1) hF.1 hF.2.1 (y_dcd_ok (by decide +kernel)) (by decide) ?_
          refine lv_isub hF.1 hF.2.1 (y_dcd_ok (by decide +kernel)) ?_
          rw [dni_sub (by omega)]
          refine lv_imul hF.1 hF.2.1 (y_dcd_ok (by decide +kernel)) ?_
          refine lv_bipush (n := 8) (v := 8) hF.1 hF.2.1 (y_dcd_ok (by decide +kernel)) (by decide) ?_
          refine lv_iload (i := 5) hF.1 hF.2.1 (y_dcd_ok (by decide +kernel)) (lv_at hl 1 rfl) ?_
          refine lv_imul hF.1 hF.2.1 (y_dcd_ok (by decide +kernel)) ?_
          refine lv_iadd hF.1 hF.2.1 (y_dcd_ok (by decide +kernel)) ?_
          refine lv_iload (i := 6) hF.1 hF.2.1 (y_dcd_ok (by decide +kernel)) (lv_at hl 0 rfl) ?_
          refine lv_iadd hF.1 hF.2.1 (y_dcd_ok (by decide +kernel)) ?_
          rw [kpl2 (by omega) (by omega) (by omega)]
          refine lv_istore (nL := 9) (i := 7) hF.1 hF.2.1 (y_dcd_ok (by decide +kernel)) hl (by decide) rfl (fun ls hl => ?_)
          have no : jfit X P r i o k = none → ∀ ls : Array Slot, lv_has ls 9 [(7, .int (nI (96 * g + (8 * o + k)))), (6, .int (nI k)), (5, .int (nI o)), (4, .int (nI st)), (0, .ref (ad 114)), (1, .int (nI (g + 1))), (2, .int (nI r)), (3, .int (nI i))] → W p l e (y_rm xGoB) s m [Value.ref (ad 114), .int (nI (g + 1)), .int (nI r), .int (nI i)].toArray below meth c H locs 0 0 Q (F0 m 130 ls []) := fun hno ls hl => by
            refine lv_iconst (n := 0) (v := 0) hF.1 hF.2.1 (y_dcd_ok (by decide +kernel)) (by decide) ?_
            refine lv_istore (nL := 9) (i := 8) hF.1 hF.2.1 (y_dcd_ok (by decide +kernel)) hl (by decide) rfl (fun ls hl => ?_)
            refine lv_iload (i := 8) hF.1 hF.2.1 (y_dcd_ok (by decide +kernel)) (lv_at hl 0 rfl) ?_
            refine lv_if_eq (off := 24) (tgt := 159) hF.1 hF.2.1 (y_dcd_ok (by decide +kernel)) (by decide) (fun hq => ?_) (fun hq => ?_)
            · exact next _ _ cw V1 L1 B1 ls hs hc hst hB1 (by rw [hno]; rfl) (lv_sub hl [2, 3, 4, 5, 6, 7, 8] rfl)
            · exact absurd rfl hq
          refine lv_aload_n (k := 0) hF.1 hF.2.1 (y_dcd_ok (by decide +kernel)) rfl (lv_at hl 4 rfl) ?_
          refine ggo (n := 8229) (index := 271) hF hs hc 114 (by decide) rfl 119 (by decide) (by decide +kernel) hv.h119 (by decide +kernel) ?_
          refine lv_iload (i := 7) hF.1 hF.2.1 (y_dcd_ok (by decide +kernel)) (lv_at hl 0 rfl) ?_
          refine gald hF hs hT hc 201 480 (by decide) (by decide) hxi (by decide +kernel) ?_
          refine lv_if_lt (off := 60) (tgt := 130) hF.1 hF.2.1 (y_dcd_ok (by decide +kernel)) (by decide) (fun hq => ?_) (fun hq => ?_)
          · refine no ?_ ls (lv_sub hl [0, 1, 2, 3, 4, 5, 6, 7] rfl)
            cases hc0 : P (8 * o + k) with
            | none => unfold jfit; rw [hc0]
            | some x =>
              rw [hc0] at hPp
              obtain ⟨k1, _, k2, _⟩ := hPp
              rw [k1] at hq
              have := (dni_ltb (j := 0) (by omega) (by decide)).mp hq
              omega
          obtain ⟨x, ex⟩ : ∃ x, P (8 * o + k) = some x := by
            cases hc0 : P (8 * o + k) with
            | none =>
              rw [hc0] at hPp
              rw [show V1 201 (96 * g + (8 * o + k)) = -1 from hPp] at hq
              exact absurd (by decide) hq
            | some x => exact ⟨x, rfl⟩
          clear hq
          rw [ex] at hPp
          obtain ⟨k1, k2, k3, k4⟩ := hPp
          have hxb := hPb _ x ex
          have hfx : ∀ h : X.st (8 * o + k) = st ∧ X.ar (8 * o + k) + X.ch st ≤ X.dp (8 * r + i), jfit X P r i o k = some x := fun h => by
            unfold jfit
            rw [ex, ← est]
            exact if_pos h
          have hfn : ¬ (X.st (8 * o + k) = st ∧ X.ar (8 * o + k) + X.ch st ≤ X.dp (8 * r + i)) → jfit X P r i o k = none := fun h => by
            unfold jfit
            rw [ex, ← est]
            exact if_neg h
          refine lv_aload_n (k := 0) hF.1 hF.2.1 (y_dcd_ok (by decide +kernel)) rfl (lv_at hl 4 rfl) ?_
          refine ggo (n := 8226) (index := 262) hF hs hc 114 (by decide) rfl 116 (by decide) (by decide +kernel) hv.h116 (by decide +kernel) ?_
          refine lv_bipush (n := 8) (v := 8) hF.1 hF.2.1 (y_dcd_ok (by decide +kernel)) (by decide) ?_
          refine lv_iload (i := 5) hF.1 hF.2.1 (y_dcd_ok (by decide +kernel)) (lv_at hl 2 rfl) ?_
          refine lv_imul hF.1 hF.2.1 (y_dcd_ok (by decide +kernel)) ?_
          refine lv_iload (i := 6) hF.1 hF.2.1 (y_dcd_ok (by decide +kernel)) (lv_at hl 1 rfl) ?_
          refine lv_iadd hF.1 hF.2.1 (y_dcd_ok (by decide +kernel)) ?_
          rw [jpl' (by omega) (by omega)]
          refine gald hF hs hT hc 198 96 (by decide) (by decide) hpo (by decide +kernel) ?_
          rw [t1.1]
          refine lv_iload (i := 4) hF.1 hF.2.1 (y_dcd_ok (by decide +kernel)) (lv_at hl 3 rfl) ?_
          refine lv_icmp_ne (off := 42) (tgt := 130) hF.1 hF.2.1 (y_dcd_ok (by decide +kernel)) (by decide) (fun hq => ?_) (fun hq => ?_)
          · exact no (hfn (fun z => hq (by rw [z.1]))) ls (lv_sub hl [0, 1, 2, 3, 4, 5, 6, 7] rfl)
          have hse := dni_injb (by omega) (by omega) hq
          clear hq
          refine lv_aload_n (k := 0) hF.1 hF.2.1 (y_dcd_ok (by decide +kernel)) rfl (lv_at hl 4 rfl) ?_
          refine ggo (n := 8227) (index := 265) hF hs hc 114 (by decide) rfl 117 (by decide) (by decide +kernel) hv.h117 (by decide +kernel) ?_
          refine lv_bipush (n := 8) (v := 8) hF.1 hF.2.1 (y_dcd_ok (by decide +kernel)) (by decide) ?_
          refine lv_iload (i := 5) hF.1 hF.2.1 (y_dcd_ok (by decide +kernel)) (lv_at hl 2 rfl) ?_
          refine lv_imul hF.1 hF.2.1 (y_dcd_ok (by decide +kernel)) ?_
          refine lv_iload (i := 6) hF.1 hF.2.1 (y_dcd_ok (by decide +kernel)) (lv_at hl 1 rfl) ?_
          refine lv_iadd hF.1 hF.2.1 (y_dcd_ok (by decide +kernel)) ?_
          rw [jpl' (by omega) (by omega)]
          refine gald hF hs hT hc 199 96 (by decide) (by decide) hpo (by decide +kernel) ?_
          rw [t2.1]
          refine lv_aload_n (k := 0) hF.1 hF.2.1 (y_dcd_ok (by decide +kernel)) rfl (lv_at hl 4 rfl) ?_
          refine ggo (n := 8221) (index := 250) hF hs hc 114 (by decide) rfl 111 (by decide) (by decide +kernel) hv.h111 (by decide +kernel) ?_
          refine lv_iload (i := 4) hF.1 hF.2.1 (y_dcd_ok (by decide +kernel)) (lv_at hl 3 rfl) ?_
          refine gald hF hs hT hc 194 8 (by decide) (by decide) s1.2 (by decide +kernel) ?_
          rw [t4.1]
          refine lv_iadd hF.1 hF.2.1 (y_dcd_ok (by decide +kernel)) ?_
          rw [dni_plus (by omega) (by omega)]
          refine lv_aload_n (k := 0) hF.1 hF.2.1 (y_dcd_ok (by decide +kernel)) rfl (lv_at hl 4 rfl) ?_
          refine ggo (n := 8228) (index := 268) hF hs hc 114 (by decide) rfl 118 (by decide) (by decide +kernel) hv.h118 (by decide +kernel) ?_
          refine lv_bipush (n := 8) (v := 8) hF.1 hF.2.1 (y_dcd_ok (by decide +kernel)) (by decide) ?_
          refine lv_iload_n (k := 2) hF.1 hF.2.1 (y_dcd_ok (by decide +kernel)) rfl (lv_at hl 6 rfl) ?_
          refine lv_imul hF.1 hF.2.1 (y_dcd_ok (by decide +kernel)) ?_
          refine lv_iload_n (k := 3) hF.1 hF.2.1 (y_dcd_ok (by decide +kernel)) rfl (lv_at hl 7 rfl) ?_
          refine lv_iadd hF.1 hF.2.1 (y_dcd_ok (by decide +kernel)) ?_
          rw [jpl' (by omega) (by omega)]
          refine gald hF hs hT hc 200 96 (by decide) (by decide) hp (by decide +kernel) ?_
          rw [t3.1]
          refine lv_icmp_gt (off := 7) (tgt := 130) hF.1 hF.2.1 (y_dcd_ok (by decide +kernel)) (by decide) (fun hq => ?_) (fun hq => ?_)
          · have h5 := (dni_ltb (by omega) (by omega)).mp hq
            exact no (hfn (fun z => by omega)) ls (lv_sub hl [0, 1, 2, 3, 4, 5, 6, 7] rfl)
          have hle : ¬ X.dp (8 * r + i) < X.ar (8 * o + k) + X.ch st := fun z => hq ((dni_ltb (by omega) (by omega)).mpr z)
          clear hq
          have hfit := hfx ⟨hse, by omega⟩
          refine lv_iconst (n := 1) (v := 1) hF.1 hF.2.1 (y_dcd_ok (by decide +kernel)) (by decide) ?_
          refine lv_goto (off := 4) (tgt := 131) hF.1 hF.2.1 (y_dcd_ok (by decide +kernel)) (by decide) ?_
          refine lv_istore (nL := 9) (i := 8) hF.1 hF.2.1 (y_dcd_ok (by decide +kernel)) hl (by decide) rfl (fun ls hl => ?_)
          refine lv_iload (i := 8) hF.1 hF.2.1 (y_dcd_ok (by decide +kernel)) (lv_at hl 0 rfl) ?_
          refine lv_if_eq (off := 24) (tgt := 159) hF.1 hF.2.1 (y_dcd_ok (by decide +kernel)) (by decide) (fun hq => ?_) (fun hq => ?_)
          · exact absurd hq (by decide)
          clear hq
          refine lv_aload_n (k := 0) hF.1 hF.2.1 (y_dcd_ok (by decide +kernel)) rfl (lv_at hl 5 rfl) ?_
          refine lv_iload_n (k := 1) hF.1 hF.2.1 (y_dcd_ok (by decide +kernel)) rfl (lv_at hl 6 rfl) ?_
          refine lv_iload_n (k := 2) hF.1 hF.2.1 (y_dcd_ok (by decide +kernel)) rfl (lv_at hl 7 rfl) ?_
          refine lv_iload_n (k := 3) hF.1 hF.2.1 (y_dcd_ok (by decide +kernel)) rfl (lv_at hl 8 rfl) ?_
          refine lv_aload_n (k := 0) hF.1 hF.2.1 (y_dcd_ok (by decide +kernel)) rfl (lv_at hl 5 rfl) ?_
          refine ggo (n := 8229) (index := 271) hF hs hc 114 (by decide) rfl 119 (by decide) (by decide +kernel) hv.h119 (by decide +kernel) ?_
          refine lv_iload (i := 7) hF.1 hF.2.1 (y_dcd_ok (by decide +kernel)) (lv_at hl 1 rfl) ?_
          refine gald hF hs hT hc 201 480 (by decide) (by decide) hxi (by decide +kernel) ?_
          rw [k1]
          refine lv_aload_n (k := 0) hF.1 hF.2.1 (y_dcd_ok (by decide +kernel)) rfl (lv_at hl 5 rfl) ?_
          refine ggo (n := 8230) (index := 274) hF hs hc 114 (by decide) rfl 120 (by decide) (by decide +kernel) hv.h120 (by decide +kernel) ?_
          refine lv_iload (i := 7) hF.1 hF.2.1 (y_dcd_ok (by decide +kernel)) (lv_at hl 1 rfl) ?_
          refine glald hF hs hT hc 202 480 (by decide) (by decide) hxi (by decide +kernel) ?_
          rw [k2]
          refine xcallV (As := [.int (nI (g + 1)), .int (nI r), .int (nI i), .int (nI x.1), .long (nL x.2)]) (rest := []) (n := 12162) (j := 822) hF hs hl.1 (hc.hO 114 (by decide)) (cm := xGoF) yo_yr222 rfl (by decide) (by decide +kernel) (show _ = some 5 from by decide +kernel) (by decide +kernel) ⟨by decide, by decide⟩ ⟨rfl, rfl⟩ (Nat.le_of_ble_eq_true rfl) ⟨Nat.zero_le _, Nat.zero_le _⟩ (kM_gof hv hX1 hT hc hg hr hi hxb hB1) (fun H2 locs2 cw2 tys2 rv hs hX2 => ?_)
          obtain ⟨e1, e2', V2, L2, c2, s2, b2⟩ := hX2
          subst e1
          rw [e2'] at hs
          show W _ _ _ _ _ _ _ _ _ _ _ _ _ _ _ (F0 m 159 ls [])
          exact next _ _ cw2 V2 L2 _ ls hs c2 (kst_tr hst s2) b2 (by rw [hfit]; rfl) (lv_sub hl [2, 3, 4, 5, 6, 7, 8] rfl)
      refine lv_iconst (n := 1) (v := 1) hF.1 hF.2.1 (y_dcd_ok (by decide +kernel)) (by decide) ?_
      refine lv_istore (nL := 9) (i := 6) hF.1 hF.2.1 (y_dcd_ok (by decide +kernel)) hl (by decide) rfl (fun ls hl => ?_)
      refine loopK (max (X.S o) 1 - 1) 1 (by omega) _ _ cw V1 L1 B1 ls hs hc hst hB1 hfin hl
  refine lv_aload_n (k := 0) hF.1 hF.2.1 (y_dcd_ok (by decide +kernel)) rfl (lv_at hl 0 rfl) ?_
  refine ggo (n := 8226) (index := 262) hF hs hc 114 (by decide) rfl 116 (by decide) (by decide +kernel) hv.h116 (by decide +kernel) ?_
  refine lv_bipush (n := 8) (v := 8) hF.1 hF.2.1 (y_dcd_ok (by decide +kernel)) (by decide) ?_
  refine lv_iload_n (k := 2) hF.1 hF.2.1 (y_dcd_ok (by decide +kernel)) rfl (lv_at hl 2 rfl) ?_
  refine lv_imul hF.1 hF.2.1 (y_dcd_ok (by decide +kernel)) ?_
  refine lv_iload_n (k := 3) hF.1 hF.2.1 (y_dcd_ok (by decide +kernel)) rfl (lv_at hl 3 rfl) ?_
  refine lv_iadd hF.1 hF.2.1 (y_dcd_ok (by decide +kernel)) ?_
  rw [jpl' (by omega) (by omega)]
  refine gald hF hs hT hc 198 96 (by decide) (by decide) hp (by decide +kernel) ?_
  rw [s1.1]
  refine lv_istore (nL := 9) (i := 4) hF.1 hF.2.1 (y_dcd_ok (by decide +kernel)) hl (by decide) rfl (fun ls hl => ?_)
  refine lv_iconst (n := 0) (v := 0) hF.1 hF.2.1 (y_dcd_ok (by decide +kernel)) (by decide) ?_
  refine lv_istore (nL := 9) (i := 5) hF.1 hF.2.1 (y_dcd_ok (by decide +kernel)) hl (by decide) rfl (fun ls hl => ?_)
  exact loopO X.n 0 (by omega) _ _ cw V L B ls hs hc (kst_rf _ V L) hB rfl hl
set_option maxHeartbeats 4000000 in
theorem kM_fiJ {op : Int32} {vs : List Value} {X : jT} (hv : kMv ad X.n op vs) (hX : kVc X V) (hzn : jX X) (hT : xgT kI kJ cI tys) (hc : kW ad cI vs V L cw) {fr wh : Nat} (hfr : fr < 8) (hwh : wh ≤ 10000) : Met l (y_y xFiJ) (y_ws ztb xFiJ) (y_rm xFiJ) (y_Pc znw b zcls D cw tys sz [.ref (ad 114), .int (nI fr), .int (nI wh)]) (y_Q zcls D (fun cw' tys' rv => rv = none ∧ tys' = tys ∧ ∃ V' L', kW ad cI vs V' L' cw' ∧ (∀ q, q ≠ 201 → V' q = V q) ∧ (∀ q, q ≠ 202 → L' q = L q) ∧ ∀ m0, m0 < 4 → ktm (jtb X fr wh m0) (m0 + 1) (V' 201) (L' 202)) cw sz) 0 0 (va_A cw sz) := by
  refine xMet (tb := ytb yw00) (mr := xFiJ) yo_yr211 (fun x hx => by cases hx) (Nat.le_of_ble_eq_true rfl) ?_
  intro p e s m below meth c Q ls hsz hF hs hl kv ki
  have hl : lv_has ls 6 [(0, .ref (ad 114)), (1, .int (nI fr)), (2, .int (nI wh))] := hl
  generalize va_A cw sz = A at *
  have hn := hX.n
  have hXX : jX X := hzn
  have loopM : ∀ (d m0 : Nat), m0 + d = 4 → ∀ (H : Heap) (locs : List Loc) (cw : va_W) (V1 : Nat → Nat → Int32) (L1 : Nat → Nat → Int64) (ls : Array Slot), xs D s A H locs cw tys → kW ad cI vs V1 L1 cw → (∀ q, q ≠ 201 → V1 q = V q) → (∀ q, q ≠ 202 → L1 q = L q) → (∀ m1, m1 < m0 → ktm (jtb X fr wh m1) (m1 + 1) (V1 201) (L1 202)) → (∀ m1, m0 ≤ m1 → m1 < 4 → ktm (fun _ => none) (m1 + 1) (V1 201) (L1 202)) → lv_has ls 6 [(3, .int (nI (m0 + 1))), (0, .ref (ad 114)), (1, .int (nI fr)), (2, .int (nI wh))] → W p l e (y_rm xFiJ) s m [Value.ref (ad 114), .int (nI fr), .int (nI wh)].toArray below meth c H locs 0 0 Q (F0 m 24 ls []) := by
    intro d
    induction d with
    | zero =>
      intro m0 hmd H locs cw V1 L1 ls hs hc h1 h2 ht hz hl
      have e4 : m0 = 4 := by omega
      subst e4
      refine lv_iload_n (k := 3) hF.1 hF.2.1 (y_dcd_ok (by decide +kernel)) rfl (lv_at hl 0 rfl) ?_
      refine lv_iconst (n := 5) (v := 5) hF.1 hF.2.1 (y_dcd_ok (by decide +kernel)) (by decide) ?_
      refine lv_icmp_ge (off := 110) (tgt := 136) hF.1 hF.2.1 (y_dcd_ok (by decide +kernel)) (by decide) (fun hq => ?_) (fun hq => ?_)
      · exact kv _ _ cw tys ls 136 rfl (by decide +kernel) hs ⟨rfl, rfl, V1, L1, hc, h1, h2, ht⟩
      · exact absurd (by decide) hq
    | succ d ih =>
      intro m0 hmd H locs cw V1 L1 ls hs hc h1 h2 ht hz hl
      have hX1 : kVc X V1 := by
        unfold kVc
        rw [h1 197 (by decide), h1 198 (by decide), h1 199 (by decide), h1 200 (by decide), h1 194 (by decide), h1 195 (by decide)]
        exact hX
      refine lv_iload_n (k := 3) hF.1 hF.2.1 (y_dcd_ok (by decide +kernel)) rfl (lv_at hl 0 rfl) ?_
      refine lv_iconst (n := 5) (v := 5) hF.1 hF.2.1 (y_dcd_ok (by decide +kernel)) (by decide) ?_
      refine lv_icmp_ge (off := 110) (tgt := 136) hF.1 hF.2.1 (y_dcd_ok (by decide +kernel)) (by decide) (fun hq => ?_) (fun hq => ?_)
      · exact absurd ((dni_leb (i := 5) (by decide) (by omega)).mp hq) (by omega)
      clear hq
      have loopR : ∀ (dr r : Nat), r + dr = X.n → ∀ (H : Heap) (locs : List Loc) (cw : va_W) (V2 : Nat → Nat → Int32) (L2 : Nat → Nat → Int64) (B : jB) (ls : Array Slot), xs D s A H locs cw tys → kW ad cI vs V2 L2 cw → kst (m0 + 1) V1 V2 L1 L2 → ktm B (m0 + 1) (V2 201) (L2 202) → jlr X fr wh (jpv X fr wh m0) 0 r B = jtb X fr wh m0 → lv_has ls 6 [(4, .int (nI r)), (3, .int (nI (m0 + 1))), (0, .ref (ad 114)), (1, .int (nI fr)), (2, .int (nI wh))] → W p l e (y_rm xFiJ) s m [Value.ref (ad 114), .int (nI fr), .int (nI wh)].toArray below meth c H locs 0 0 Q (F0 m 32 ls []) := by
        intro dr
        induction dr with
        | zero =>
          intro r hrd H locs cw V2 L2 B ls hs hc hst hB hfin hl
          refine lv_iload (i := 4) hF.1 hF.2.1 (y_dcd_ok (by decide +kernel)) (lv_at hl 0 rfl) ?_
          refine lv_aload_n (k := 0) hF.1 hF.2.1 (y_dcd_ok (by decide +kernel)) rfl (lv_at hl 2 rfl) ?_
          refine ggo (n := 8223) (index := 812) hF hs hc 114 (by decide) rfl 113 (by decide) (by decide +kernel) hv.h113 (by decide +kernel) ?_
          refine lv_icmp_ge (off := 92) (tgt := 130) hF.1 hF.2.1 (y_dcd_ok (by decide +kernel)) (by decide) (fun hq => ?_) (fun hq => ?_)
          · rw [jlr_n X fr wh _ 0 (by omega)] at hfin
            rw [hfin] at hB
            refine lv_iinc (nL := 6) (i := 3) (n := 1) (k := 1) (v := nI (m0 + 1 + 1)) hF.1 hF.2.1 (y_dcd_ok (by decide +kernel)) hl rfl (dni_add (by omega)) (by decide) rfl (fun ls hl => ?_)
            refine lv_goto (off := (-109)) (tgt := 24) hF.1 hF.2.1 (y_dcd_ok (by decide +kernel)) (by decide) ?_
            refine ih (m0 + 1) (by omega) _ _ cw V2 L2 ls hs hc (fun q hq => (hst.1 q hq).trans (h1 q hq)) (fun q hq => (hst.2.1 q hq).trans (h2 q hq)) (fun m1 hm1 => ?_) (fun m1 hm1 hm4 => ktm_st hst (by omega) (hz m1 (by omega) hm4)) (lv_sub hl [0, 2, 3, 4] rfl)
            by_cases e : m1 = m0
            · subst e
              exact hB
            · exact ktm_st hst (by omega) (ht m1 (by omega))
          · exact absurd ((dni_le (by omega) (by omega)).mpr (by omega)) hq
        | succ dr ihr =>
          intro r hrd H locs cw V2 L2 B ls hs hc hst hB hfin hl
          have hr12 : r < 12 := by omega
          rw [jlr_s X fr wh _ 0 (show r < X.n by omega)] at hfin
          refine lv_iload (i := 4) hF.1 hF.2.1 (y_dcd_ok (by decide +kernel)) (lv_at hl 0 rfl) ?_
          refine lv_aload_n (k := 0) hF.1 hF.2.1 (y_dcd_ok (by decide +kernel)) rfl (lv_at hl 2 rfl) ?_
          refine ggo (n := 8223) (index := 812) hF hs hc 114 (by decide) rfl 113 (by decide) (by decide +kernel) hv.h113 (by decide +kernel) ?_
          refine lv_icmp_ge (off := 92) (tgt := 130) hF.1 hF.2.1 (y_dcd_ok (by decide +kernel)) (by decide) (fun hq => ?_) (fun hq => ?_)
          · exact absurd ((dni_le (by omega) (by omega)).mp hq) (by omega)
          clear hq
          have hSr := hX1.S r hr12
          have loopI : ∀ (di i : Nat), i + di = X.S r → ∀ (H : Heap) (locs : List Loc) (cw : va_W) (V2 : Nat → Nat → Int32) (L2 : Nat → Nat → Int64) (B : jB) (ls : Array Slot), xs D s A H locs cw tys → kW ad cI vs V2 L2 cw → kst (m0 + 1) V1 V2 L1 L2 → ktm B (m0 + 1) (V2 201) (L2 202) → jlr X fr wh (jpv X fr wh m0) 0 (r + 1) (jli X fr wh (jpv X fr wh m0) 0 r i B) = jtb X fr wh m0 → lv_has ls 6 [(5, .int (nI i)), (4, .int (nI r)), (3, .int (nI (m0 + 1))), (0, .ref (ad 114)), (1, .int (nI fr)), (2, .int (nI wh))] → W p l e (y_rm xFiJ) s m [Value.ref (ad 114), .int (nI fr), .int (nI wh)].toArray below meth c H locs 0 0 Q (F0 m 44 ls []) := by
            intro di
            induction di with
            | zero =>
              intro i hid H locs cw V2 L2 B ls hs hc hst hB hfin hl
              have eS : V2 197 r = nI (X.S r) := by rw [hst.1 197 (by decide)]; exact hSr.1
              refine lv_iload (i := 5) hF.1 hF.2.1 (y_dcd_ok (by decide +kernel)) (lv_at hl 0 rfl) ?_
              refine lv_aload_n (k := 0) hF.1 hF.2.1 (y_dcd_ok (by decide +kernel)) rfl (lv_at hl 3 rfl) ?_
              refine ggo (n := 8225) (index := 259) hF hs hc 114 (by decide) rfl 115 (by decide) (by decide +kernel) hv.h115 (by decide +kernel) ?_
              refine lv_iload (i := 4) hF.1 hF.2.1 (y_dcd_ok (by decide +kernel)) (lv_at hl 1 rfl) ?_
              refine gald hF hs hT hc 197 12 (by decide) (by decide) hr12 (by decide +kernel) ?_
              rw [eS]
              refine lv_icmp_ge (off := 71) (tgt := 124) hF.1 hF.2.1 (y_dcd_ok (by decide +kernel)) (by decide) (fun hq => ?_) (fun hq => ?_)
              · rw [jli_n X fr wh _ 0 r (by omega)] at hfin
                refine lv_iinc (nL := 6) (i := 4) (n := 1) (k := 1) (v := nI (r + 1)) hF.1 hF.2.1 (y_dcd_ok (by decide +kernel)) hl rfl (dni_add (by omega)) (by decide) rfl (fun ls hl => ?_)
                refine lv_goto (off := (-95)) (tgt := 32) hF.1 hF.2.1 (y_dcd_ok (by decide +kernel)) (by decide) ?_
                exact ihr (r + 1) (by omega) _ _ cw V2 L2 B ls hs hc hst hB hfin (lv_sub hl [0, 2, 3, 4, 5] rfl)
              · exact absurd ((dni_le (by omega) (by omega)).mpr (by omega)) hq
            | succ di ihi =>
              intro i hid H locs cw V2 L2 B ls hs hc hst hB hfin hl
              have eS : V2 197 r = nI (X.S r) := by rw [hst.1 197 (by decide)]; exact hSr.1
              have hX2 := kVc_st hst hX1
              have hp : 8 * r + i < 96 := by omega
              have s1 := hX2.st _ hp
              have s2 := hX2.dp _ hp
              rw [jli_s X fr wh _ 0 r (show i < X.S r - 0 by omega)] at hfin
              refine lv_iload (i := 5) hF.1 hF.2.1 (y_dcd_ok (by decide +kernel)) (lv_at hl 0 rfl) ?_
              refine lv_aload_n (k := 0) hF.1 hF.2.1 (y_dcd_ok (by decide +kernel)) rfl (lv_at hl 3 rfl) ?_
              refine ggo (n := 8225) (index := 259) hF hs hc 114 (by decide) rfl 115 (by decide) (by decide +kernel) hv.h115 (by decide +kernel) ?_
              refine lv_iload (i := 4) hF.1 hF.2.1 (y_dcd_ok (by decide +kernel)) (lv_at hl 1 rfl) ?_
              refine gald hF hs hT hc 197 12 (by decide) (by decide) hr12 (by decide +kernel) ?_
              rw [eS]
              refine lv_icmp_ge (off := 71) (tgt := 124) hF.1 hF.2.1 (y_dcd_ok (by decide +kernel)) (by decide) (fun hq => ?_) (fun hq => ?_)
              · exact absurd ((dni_le (by omega) (by omega)).mp hq) (by omega)
              clear hq
              have next : ∀ (H : Heap) (locs : List Loc) (cw : va_W) (V3 : Nat → Nat → Int32) (L3 : Nat → Nat → Int64) (ls : Array Slot), xs D s A H locs cw tys → kW ad cI vs V3 L3 cw → kst (m0 + 1) V2 V3 L2 L3 → ktm (jgo X fr wh (jpv X fr wh m0) r i B) (m0 + 1) (V3 201) (L3 202) → lv_has ls 6 [(5, .int (nI i)), (4, .int (nI r)), (3, .int (nI (m0 + 1))), (0, .ref (ad 114)), (1, .int (nI fr)), (2, .int (nI wh))] → W p l e (y_rm xFiJ) s m [Value.ref (ad 114), .int (nI fr), .int (nI wh)].toArray below meth c H locs 0 0 Q (F0 m 118 ls []) := by
                intro H locs cw V3 L3 ls hs hc hst3 hB3 hl
                refine lv_iinc (nL := 6) (i := 5) (n := 1) (k := 0) (v := nI (i + 1)) hF.1 hF.2.1 (y_dcd_ok (by decide +kernel)) hl rfl (dni_add (by omega)) (by decide) rfl (fun ls hl => ?_)
                refine lv_goto (off := (-77)) (tgt := 44) hF.1 hF.2.1 (y_dcd_ok (by decide +kernel)) (by decide) ?_
                exact ihi (i + 1) (by omega) _ _ cw V3 L3 _ ls hs hc (kst_tr hst hst3) hB3 hfin hl
              refine lv_iload_n (k := 3) hF.1 hF.2.1 (y_dcd_ok (by decide +kernel)) rfl (lv_at hl 2 rfl) ?_
              refine lv_iconst (n := 1) (v := 1) hF.1 hF.2.1 (y_dcd_ok (by decide +kernel)) (by decide) ?_
              refine lv_icmp_le (off := 15) (tgt := 73) hF.1 hF.2.1 (y_dcd_ok (by decide +kernel)) (by decide) (fun hq => ?_) (fun hq => ?_)
              rotate_left
              · obtain ⟨m1, rfl⟩ : ∃ m1, m0 = m1 + 1 := by
                  cases m0 with
                  | zero => exact absurd (by decide) hq
                  | succ m1 => exact ⟨m1, rfl⟩
                refine lv_aload_n (k := 0) hF.1 hF.2.1 (y_dcd_ok (by decide +kernel)) rfl (lv_at hl 3 rfl) ?_
                refine lv_iload_n (k := 3) hF.1 hF.2.1 (y_dcd_ok (by decide +kernel)) rfl (lv_at hl 2 rfl) ?_
                refine lv_iload (i := 4) hF.1 hF.2.1 (y_dcd_ok (by decide +kernel)) (lv_at hl 1 rfl) ?_
                refine lv_iload (i := 5) hF.1 hF.2.1 (y_dcd_ok (by decide +kernel)) (lv_at hl 0 rfl) ?_
                refine xcallV (As := [.int (nI (m1 + 1 + 1)), .int (nI r), .int (nI i)]) (rest := []) (n := 12158) (j := 826) hF hs hl.1 (hc.hO 114 (by decide)) (cm := xGoB) yo_yr220 rfl (by decide) (by decide +kernel) (show _ = some 3 from by decide +kernel) (by decide +kernel) ⟨by decide, by decide⟩ ⟨rfl, rfl⟩ (Nat.le_of_ble_eq_true rfl) ⟨Nat.zero_le _, Nat.zero_le _⟩ (kM_gob hv hX2 hT hc (show m1 + 1 + 1 ≤ 4 by omega) (show r < X.n by omega) (show i < X.S r by omega) hB (ktm_st hst (by omega) (ht m1 (by omega))) (fun p x h => jtb_b hXX fr wh (by omega) h)) (fun H5 locs5 cw5 tys5 rv hs hX5 => ?_)
                obtain ⟨e1, e2', V5, L5, c5, n5, b5⟩ := hX5
                subst e1
                rw [e2'] at hs
                show W _ _ _ _ _ _ _ _ _ _ _ _ _ _ _ (F0 m 70 ls [])
                refine lv_goto (off := 48) (tgt := 118) hF.1 hF.2.1 (y_dcd_ok (by decide +kernel)) (by decide) ?_
                exact next _ _ cw5 V5 L5 ls hs c5 n5 (b5 fr wh) hl
              have em : m0 = 0 := by
                have := (dni_leb (i := m0 + 1) (j := 1) (by omega) (by omega)).mp hq
                omega
              subst em
              clear hq
              have no : ¬ (X.st (8 * r + i) = fr ∧ wh ≤ X.dp (8 * r + i)) → W p l e (y_rm xFiJ) s m [Value.ref (ad 114), .int (nI fr), .int (nI wh)].toArray below meth c H locs 0 0 Q (F0 m 118 ls []) := fun hno => next _ _ cw V2 L2 ls hs hc (kst_rf _ V2 L2) (by rw [show jgo X fr wh (jpv X fr wh 0) r i B = B from if_neg hno]; exact hB) hl
              refine lv_aload_n (k := 0) hF.1 hF.2.1 (y_dcd_ok (by decide +kernel)) rfl (lv_at hl 3 rfl) ?_
              refine ggo (n := 8226) (index := 262) hF hs hc 114 (by decide) rfl 116 (by decide) (by decide +kernel) hv.h116 (by decide +kernel) ?_
              refine lv_bipush (n := 8) (v := 8) hF.1 hF.2.1 (y_dcd_ok (by decide +kernel)) (by decide) ?_
              refine lv_iload (i := 4) hF.1 hF.2.1 (y_dcd_ok (by decide +kernel)) (lv_at hl 1 rfl) ?_
              refine lv_imul hF.1 hF.2.1 (y_dcd_ok (by decide +kernel)) ?_
              refine lv_iload (i := 5) hF.1 hF.2.1 (y_dcd_ok (by decide +kernel)) (lv_at hl 0 rfl) ?_
              refine lv_iadd hF.1 hF.2.1 (y_dcd_ok (by decide +kernel)) ?_
              rw [jpl' (by omega) (by omega)]
              refine gald hF hs hT hc 198 96 (by decide) (by decide) hp (by decide +kernel) ?_
              rw [s1.1]
              refine lv_iload_n (k := 1) hF.1 hF.2.1 (y_dcd_ok (by decide +kernel)) rfl (lv_at hl 4 rfl) ?_
              refine lv_icmp_ne (off := 31) (tgt := 118) hF.1 hF.2.1 (y_dcd_ok (by decide +kernel)) (by decide) (fun hq => ?_) (fun hq => ?_)
              · exact no (fun z => hq (by rw [z.1]))
              have hse := dni_injb (by omega) (by omega) hq
              clear hq
              refine lv_aload_n (k := 0) hF.1 hF.2.1 (y_dcd_ok (by decide +kernel)) rfl (lv_at hl 3 rfl) ?_
              refine ggo (n := 8228) (index := 268) hF hs hc 114 (by decide) rfl 118 (by decide) (by decide +kernel) hv.h118 (by decide +kernel) ?_
              refine lv_bipush (n := 8) (v := 8) hF.1 hF.2.1 (y_dcd_ok (by decide +kernel)) (by decide) ?_
              refine lv_iload (i := 4) hF.1 hF.2.1 (y_dcd_ok (by decide +kernel)) (lv_at hl 1 rfl) ?_
              refine lv_imul hF.1 hF.2.1 (y_dcd_ok (by decide +kernel)) ?_
              refine lv_iload (i := 5) hF.1 hF.2.1 (y_dcd_ok (by decide +kernel)) (lv_at hl 0 rfl) ?_
              refine lv_iadd hF.1 hF.2.1 (y_dcd_ok (by decide +kernel)) ?_
              rw [jpl' (by omega) (by omega)]
              refine gald hF hs hT hc 200 96 (by decide) (by decide) hp (by decide +kernel) ?_
              rw [s2.1]
              refine lv_iload_n (k := 2) hF.1 hF.2.1 (y_dcd_ok (by decide +kernel)) rfl (lv_at hl 5 rfl) ?_
              refine lv_icmp_lt (off := 14) (tgt := 118) hF.1 hF.2.1 (y_dcd_ok (by decide +kernel)) (by decide) (fun hq => ?_) (fun hq => ?_)
              · exact no (fun z => absurd ((dni_ltb (by omega) (by omega)).mp hq) (by omega))
              have hle : wh ≤ X.dp (8 * r + i) := Nat.not_lt.mp (fun z => hq ((dni_ltb (by omega) (by omega)).mpr z))
              clear hq
              refine lv_aload_n (k := 0) hF.1 hF.2.1 (y_dcd_ok (by decide +kernel)) rfl (lv_at hl 3 rfl) ?_
              refine lv_iconst (n := 1) (v := 1) hF.1 hF.2.1 (y_dcd_ok (by decide +kernel)) (by decide) ?_
              refine lv_iload (i := 4) hF.1 hF.2.1 (y_dcd_ok (by decide +kernel)) (lv_at hl 1 rfl) ?_
              refine lv_iload (i := 5) hF.1 hF.2.1 (y_dcd_ok (by decide +kernel)) (lv_at hl 0 rfl) ?_
              refine lv_iconst (n := 0) (v := 0) hF.1 hF.2.1 (y_dcd_ok (by decide +kernel)) (by decide) ?_
              refine lv_lconst (n := 0) (v := nL 0) hF.1 hF.2.1 (y_dcd_ok (by decide +kernel)) (by decide) ?_
              refine xcallV (As := [.int (nI 1), .int (nI r), .int (nI i), .int (nI (0, 0).1), .long (nL (0, 0).2)]) (rest := []) (n := 12162) (j := 822) hF hs hl.1 (hc.hO 114 (by decide)) (cm := xGoF) yo_yr222 rfl (by decide) (by decide +kernel) (show _ = some 5 from by decide +kernel) (by decide +kernel) ⟨by decide, by decide⟩ ⟨rfl, rfl⟩ (Nat.le_of_ble_eq_true rfl) ⟨Nat.zero_le _, Nat.zero_le _⟩ (kM_gof hv hX2 hT hc (g := 1) (by decide) (show r < X.n by omega) (show i < X.S r by omega) (x := (0, 0)) ⟨by decide, by decide⟩ hB) (fun H5 locs5 cw5 tys5 rv hs hX5 => ?_)
              obtain ⟨e1, e2', V5, L5, c5, n5, b5⟩ := hX5
              subst e1
              rw [e2'] at hs
              show W _ _ _ _ _ _ _ _ _ _ _ _ _ _ _ (F0 m 118 ls [])
              exact next _ _ cw5 V5 L5 ls hs c5 n5 (by rw [show jgo X fr wh (jpv X fr wh 0) r i B = jri X r i B (0, 0) from if_pos ⟨hse, hle⟩]; exact b5) hl
          refine lv_iconst (n := 0) (v := 0) hF.1 hF.2.1 (y_dcd_ok (by decide +kernel)) (by decide) ?_
          refine lv_istore (nL := 6) (i := 5) hF.1 hF.2.1 (y_dcd_ok (by decide +kernel)) hl (by decide) rfl (fun ls hl => ?_)
          exact loopI (X.S r) 0 (by omega) _ _ cw V2 L2 B ls hs hc hst hB hfin hl
      refine lv_iconst (n := 0) (v := 0) hF.1 hF.2.1 (y_dcd_ok (by decide +kernel)) (by decide) ?_
      refine lv_istore (nL := 6) (i := 4) hF.1 hF.2.1 (y_dcd_ok (by decide +kernel)) hl (by decide) rfl (fun ls hl => ?_)
      refine loopR X.n 0 (by omega) _ _ cw V1 L1 _ ls hs hc (kst_rf _ V1 L1) (hz m0 (Nat.le_refl _) (by omega)) ?_ hl
      rw [jlr_e X fr wh _ X.n 0 (by omega), ← jtb_pv]
  have loopZ : ∀ (d k : Nat), k + d = 480 → ∀ (H : Heap) (locs : List Loc) (cw : va_W) (V1 : Nat → Nat → Int32) (ls : Array Slot), xs D s A H locs cw tys → kW ad cI vs V1 L cw → (∀ q, q ≠ 201 → V1 q = V q) → (∀ j, j < k → V1 201 j = -1) → lv_has ls 6 [(3, .int (nI k)), (0, .ref (ad 114)), (1, .int (nI fr)), (2, .int (nI wh))] → W p l e (y_rm xFiJ) s m [Value.ref (ad 114), .int (nI fr), .int (nI wh)].toArray below meth c H locs 0 0 Q (F0 m 2 ls []) := by
    intro d
    induction d with
    | zero =>
      intro k hk H locs cw V1 ls hs hc h1 h2 hl
      refine lv_iload_n (k := 3) hF.1 hF.2.1 (y_dcd_ok (by decide +kernel)) rfl (lv_at hl 0 rfl) ?_
      refine lv_sipush (n := 480) (v := 480) hF.1 hF.2.1 (y_dcd_ok (by decide +kernel)) (by decide) ?_
      refine lv_icmp_ge (off := 16) (tgt := 22) hF.1 hF.2.1 (y_dcd_ok (by decide +kernel)) (by decide) (fun hq => ?_) (fun hq => ?_)
      · show W _ _ _ _ _ _ _ _ _ _ _ _ _ _ _ (F0 m 22 ls [])
        refine lv_iconst (n := 1) (v := 1) hF.1 hF.2.1 (y_dcd_ok (by decide +kernel)) (by decide) ?_
        refine lv_istore_n (nL := 6) (k := 3) hF.1 hF.2.1 (y_dcd_ok (by decide +kernel)) rfl hl (by decide) rfl (fun ls hl => ?_)
        exact loopM 4 0 (by omega) _ _ cw V1 L ls hs hc h1 (fun _ _ => rfl) (fun m1 h => absurd h (Nat.not_lt_zero _)) (fun m1 _ h4 p hp => h2 _ (by omega)) (lv_sub hl [0, 1, 2, 3] rfl)
      · exact absurd ((dni_le (i := 480) (by omega) (by omega)).mpr (by omega)) hq
    | succ d ih =>
      intro k hk H locs cw V1 ls hs hc h1 h2 hl
      refine lv_iload_n (k := 3) hF.1 hF.2.1 (y_dcd_ok (by decide +kernel)) rfl (lv_at hl 0 rfl) ?_
      refine lv_sipush (n := 480) (v := 480) hF.1 hF.2.1 (y_dcd_ok (by decide +kernel)) (by decide) ?_
      refine lv_icmp_ge (off := 16) (tgt := 22) hF.1 hF.2.1 (y_dcd_ok (by decide +kernel)) (by decide) (fun hq => ?_) (fun hq => ?_)
      · exact absurd ((dni_le (i := 480) (by omega) (by omega)).mp hq) (by omega)
      clear hq
      refine lv_aload_n (k := 0) hF.1 hF.2.1 (y_dcd_ok (by decide +kernel)) rfl (lv_at hl 1 rfl) ?_
      refine ggo (n := 8229) (index := 271) hF hs hc 114 (by decide) rfl 119 (by decide) (by decide +kernel) hv.h119 (by decide +kernel) ?_
      refine lv_iload_n (k := 3) hF.1 hF.2.1 (y_dcd_ok (by decide +kernel)) rfl (lv_at hl 0 rfl) ?_
      refine lv_iconst (n := -1) (v := -1) hF.1 hF.2.1 (y_dcd_ok (by decide +kernel)) (by decide) ?_
      refine gast hF hs hT hc 201 480 (by decide) (by decide) (show k < 480 by omega) (by decide +kernel) (fun H locs cw hs hc => ?_)
      refine lv_iinc (nL := 6) (i := 3) (n := 1) (k := 0) (v := nI (k + 1)) hF.1 hF.2.1 (y_dcd_ok (by decide +kernel)) hl rfl (dni_add (by omega)) (by decide) rfl (fun ls hl => ?_)
      refine lv_goto (off := (-17)) (tgt := 2) hF.1 hF.2.1 (y_dcd_ok (by decide +kernel)) (by decide) ?_
      refine ih (k + 1) (by omega) _ _ cw _ ls hs hc (fun q hq => by rw [xup_n _ _ _ hq]; exact h1 q hq) (fun j hj => ?_) (lv_sub hl [0, 1, 2, 3] rfl)
      rw [xup_s]
      by_cases e : j = k
      · subst e
        simp [upd]
      · have := h2 j (by omega)
        simp [upd, e, this]
  refine lv_iconst (n := 0) (v := 0) hF.1 hF.2.1 (y_dcd_ok (by decide +kernel)) (by decide) ?_
  refine lv_istore_n (nL := 6) (k := 3) hF.1 hF.2.1 (y_dcd_ok (by decide +kernel)) rfl hl (by decide) rfl (fun ls hl => ?_)
  exact loopZ 480 0 (by omega) _ _ cw V ls hs hc (fun _ _ => rfl) (fun j hj => absurd hj (Nat.not_lt_zero _)) hl
end ZB
