-- journeys of the class: beginAt, changeInto, beginLevel
abbrev xBeA : yMR := xmr ⟨"RailwayHouse$Journeys", "beginAt", "(IIII)V"⟩ prog_3_method_6_code 6 none ⟨3, 0, 0, 115⟩ 1
abbrev xChI : yMR := xmr ⟨"RailwayHouse$Journeys", "changeInto", "(II)V"⟩ prog_3_method_7_code 12 none ⟨3, 0, 0, 115⟩ 1
abbrev xBeL : yMR := xmr ⟨"RailwayHouse$Journeys", "beginLevel", "()V"⟩ prog_3_method_5_code 4 none ⟨1, 0, 0, 60⟩ 1
section YB
variable {l : Launch} {D : va_G} {b : Nat → Nat} {cw : va_W} {tys : List (ClassId × FieldType)} {sz : Nat} {ad : Nat → Nat} {cI : Nat → ClassId} {V : Nat → Nat → Int32} {L : Nat → Nat → Int64}
set_option maxHeartbeats 1000000 in
theorem jM_beA {op : Int32} {u v : Nat} (huv : jUV u v) {rn ho he : Int32} {X : jT} (hX : jVc X V) (hT : xgT jI jJ cI tys) (hc : jW ad cI op u v rn ho he V L cw) {r i : Nat} (hr : r < X.n) (hi : i + 1 < X.S r) {fr wh : Nat} (hf : fr < 100) (hw : wh ≤ 10000) {B : jB} (hB : jtab B (V u) (L (u + 1))) : Met l (y_y xBeA) (y_ws ztb xBeA) (y_rm xBeA) (y_Pc znw b zcls D cw tys sz [.ref (ad 93), .int (nI r), .int (nI i), .int (nI fr), .int (nI wh)]) (y_Q zcls D (fun cw' tys' rv => rv = none ∧ tys' = tys ∧ ∃ V' L', jW ad cI op u v rn ho he V' L' cw' ∧ (∀ q, q ≠ u → V' q = V q) ∧ (∀ q, q ≠ u + 1 → L' q = L q) ∧ jtab (jgo X fr wh none r i B) (V' u) (L' (u + 1))) cw sz) 0 0 (va_A cw sz) := by
  refine xMet (tb := ytb yw00) (mr := xBeA) yo_ym19 (fun x hx => by cases hx) (Nat.le_of_ble_eq_true rfl) ?_
  intro p e s m below meth c Q ls hsz hF hs hl kv ki
  have hl : lv_has ls 6 [(0, .ref (ad 93)), (1, .int (nI r)), (2, .int (nI i)), (3, .int (nI fr)), (4, .int (nI wh))] := hl
  generalize va_A cw sz = A at *
  have hn := hX.n
  have h8 := (hX.S r (by omega)).2
  have hp : 8 * r + i < 96 := by omega
  have s1 := hX.st _ hp
  have s2 := hX.dp _ hp
  have no : ¬ (X.st (8 * r + i) = fr ∧ wh ≤ X.dp (8 * r + i)) → ∀ ls : Array Slot, W p l e (y_rm xBeA) s m [Value.ref (ad 93), .int (nI r), .int (nI i), .int (nI fr), .int (nI wh)].toArray below meth c s.heap [] 0 0 Q (F0 m 45 ls []) := fun hno ls => kv _ _ cw tys ls 45 rfl (by decide +kernel) hs ⟨rfl, rfl, V, L, hc, fun _ _ => rfl, fun _ _ => rfl, by rw [show jgo X fr wh none r i B = B from if_neg hno]; exact hB⟩
  refine lv_iload_n (k := 1) hF.1 hF.2.1 (y_dcd_ok (by decide +kernel)) rfl (lv_at hl 1 rfl) ?_
  refine lv_bipush (n := 8) (v := 8) hF.1 hF.2.1 (y_dcd_ok (by decide +kernel)) (by decide) ?_
  refine lv_imul hF.1 hF.2.1 (y_dcd_ok (by decide +kernel)) ?_
  refine lv_iload_n (k := 2) hF.1 hF.2.1 (y_dcd_ok (by decide +kernel)) rfl (lv_at hl 2 rfl) ?_
  refine lv_iadd hF.1 hF.2.1 (y_dcd_ok (by decide +kernel)) ?_
  rw [jpl (by omega) (by omega)]
  refine lv_istore (nL := 6) (i := 5) hF.1 hF.2.1 (y_dcd_ok (by decide +kernel)) hl (by decide) rfl (fun ls hl => ?_)
  refine lv_aload_n (k := 0) hF.1 hF.2.1 (y_dcd_ok (by decide +kernel)) rfl (lv_at hl 1 rfl) ?_
  refine ggo (n := 3004) (index := 41) hF hs hc 93 (by decide) rfl 0 (by decide) (by decide +kernel) rfl (by decide +kernel) ?_
  refine ggo (n := 2187) (index := 65) hF hs hc 79 (by decide) rfl 5 (by decide) (by decide +kernel) rfl (by decide +kernel) ?_
  refine lv_iload (i := 5) hF.1 hF.2.1 (y_dcd_ok (by decide +kernel)) (lv_at hl 0 rfl) ?_
  refine gald hF hs hT hc 84 96 (by decide) (by decide) hp (by decide +kernel) ?_
  rw [s1.1]
  refine lv_iload_n (k := 3) hF.1 hF.2.1 (y_dcd_ok (by decide +kernel)) rfl (lv_at hl 4 rfl) ?_
  refine lv_icmp_ne (off := 26) (tgt := 45) hF.1 hF.2.1 (y_dcd_ok (by decide +kernel)) (by decide) (fun hq => ?_) (fun hq => ?_)
  · exact no (fun z => hq (by rw [z.1])) ls
  have hst := dni_injb (by omega) (by omega) hq
  refine lv_aload_n (k := 0) hF.1 hF.2.1 (y_dcd_ok (by decide +kernel)) rfl (lv_at hl 1 rfl) ?_
  refine ggo (n := 3004) (index := 41) hF hs hc 93 (by decide) rfl 0 (by decide) (by decide +kernel) rfl (by decide +kernel) ?_
  refine ggo (n := 2191) (index := 68) hF hs hc 79 (by decide) rfl 7 (by decide) (by decide +kernel) rfl (by decide +kernel) ?_
  refine lv_iload (i := 5) hF.1 hF.2.1 (y_dcd_ok (by decide +kernel)) (lv_at hl 0 rfl) ?_
  refine gald hF hs hT hc 86 96 (by decide) (by decide) hp (by decide +kernel) ?_
  rw [s2.1]
  refine lv_iload (i := 4) hF.1 hF.2.1 (y_dcd_ok (by decide +kernel)) (lv_at hl 5 rfl) ?_
  refine lv_icmp_lt (off := 11) (tgt := 45) hF.1 hF.2.1 (y_dcd_ok (by decide +kernel)) (by decide) (fun hq => ?_) (fun hq => ?_)
  · exact no (fun z => absurd ((dni_ltb (by omega) (by omega)).mp hq) (by omega)) ls
  have hwh : wh ≤ X.dp (8 * r + i) := Nat.not_lt.mp (fun z => hq ((dni_ltb (by omega) (by omega)).mpr z))
  refine lv_aload_n (k := 0) hF.1 hF.2.1 (y_dcd_ok (by decide +kernel)) rfl (lv_at hl 1 rfl) ?_
  refine lv_iload_n (k := 1) hF.1 hF.2.1 (y_dcd_ok (by decide +kernel)) rfl (lv_at hl 2 rfl) ?_
  refine lv_iload_n (k := 2) hF.1 hF.2.1 (y_dcd_ok (by decide +kernel)) rfl (lv_at hl 3 rfl) ?_
  refine lv_iconst (n := 0) (v := 0) hF.1 hF.2.1 (y_dcd_ok (by decide +kernel)) (by decide) ?_
  refine lv_lconst (n := 0) (v := nL 0) hF.1 hF.2.1 (y_dcd_ok (by decide +kernel)) (by decide) ?_
  refine xcallV (As := [.int (nI r), .int (nI i), .int (nI (0, 0).1), .long (nL (0, 0).2)]) (rest := []) (n := 7166) (j := 71) hF hs hl.1 (hc.hO 93 (by decide)) (cm := xRid) yo_yr23 rfl (by decide) (by decide +kernel) (show _ = some 4 from by decide +kernel) (by decide +kernel) ⟨by decide, by decide⟩ ⟨rfl, rfl⟩ (Nat.le_of_ble_eq_true rfl) ⟨Nat.zero_le _, Nat.zero_le _⟩ (jM_rid huv hX hT hc hr hi (x := (0, 0)) ⟨by decide, by decide⟩ hB) (fun H1 locs1 cw1 tys1 rv hs hX => ?_)
  obtain ⟨e1, e2, V', L', k1, k2, k3, k4⟩ := hX
  subst e1
  rw [e2] at hs
  exact kv _ _ cw1 tys ls 45 rfl (by decide +kernel) hs ⟨rfl, rfl, V', L', k1, k2, k3, by rw [show jgo X fr wh none r i B = jri X r i B (0, 0) from if_pos ⟨hst, hwh⟩]; exact k4⟩
set_option maxHeartbeats 4000000 in
theorem jM_chI {op : Int32} {u v : Nat} (huv : jUV u v) {ho he : Int32} {X : jT} (hX : jVc X V) (hT : xgT jI jJ cI tys) (hc : jW ad cI op u v (nI X.n) ho he V L cw) {r i : Nat} (hr : r < X.n) (hi : i + 1 < X.S r) {B P : jB} (hB : jtab B (V u) (L (u + 1))) (hP : jtab P (V v) (L (v + 1))) (hPb : ∀ p x, P p = some x → x.1 < 5000 ∧ x.2 < 2 ^ 40) : Met l (y_y xChI) (y_ws ztb xChI) (y_rm xChI) (y_Pc znw b zcls D cw tys sz [.ref (ad 93), .int (nI r), .int (nI i)]) (y_Q zcls D (fun cw' tys' rv => rv = none ∧ tys' = tys ∧ ∃ V' L', jW ad cI op u v (nI X.n) ho he V' L' cw' ∧ (∀ q, q ≠ u → V' q = V q) ∧ (∀ q, q ≠ u + 1 → L' q = L q) ∧ ∀ fr wh, jtab (jgo X fr wh (some P) r i B) (V' u) (L' (u + 1))) cw sz) 0 0 (va_A cw sz) := by
  refine xMet (tb := ytb yw00) (mr := xChI) yo_yr19 (fun x hx => by cases hx) (Nat.le_of_ble_eq_true rfl) ?_
  intro p e s m below meth c Q ls hsz hF hs hl kv ki
  have hl : lv_has ls 12 [(0, .ref (ad 93)), (1, .int (nI r)), (2, .int (nI i))] := hl
  generalize va_A cw sz = A at *
  obtain ⟨⟨huI, huJ⟩, hvI, hvJ⟩ := jUV_ok huv
  have hn := hX.n
  have h8 := (hX.S r (by omega)).2
  have hp : 8 * r + i < 96 := by omega
  have s1 := hX.st _ hp
  have s2 := hX.dp _ hp
  have s3 := hX.ch _ s1.2
  obtain ⟨st, est⟩ : ∃ st, st = X.st (8 * r + i) := ⟨_, rfl⟩
  obtain ⟨la, ela⟩ : ∃ la, la = nI (X.dp (8 * r + i)) - nI (X.ch st) := ⟨_, rfl⟩
  rw [← est] at s1 s3
  have hla : la.toInt = (X.dp (8 * r + i) : Int) - X.ch st := by
    have i1 := dni_int (k := X.dp (8 * r + i)) (by omega)
    have i2 := dni_int (k := X.ch st) (by omega)
    rw [ela, di_sub (by omega) (by omega)]
    omega
  have fin : ∀ (H : Heap) (locs : List Loc) (t : Option jP) (x6 : Int32) (y7 : Int64) (ls : Array Slot), xs D s A H locs cw tys → jr t x6 y7 → (∀ x, t = some x → x.1 < 5000 ∧ x.2 < 2 ^ 40) → (jfo X P r i 0).foldl joff none = t → lv_has ls 12 [(6, .int x6), (7, .long y7), (0, .ref (ad 93)), (1, .int (nI r)), (2, .int (nI i))] → W p l e (y_rm xChI) s m [Value.ref (ad 93), .int (nI r), .int (nI i)].toArray below meth c H locs 0 0 Q (F0 m 192 ls []) := by
    intro H locs t x6 y7 ls hs ht htb hfin hl
    refine lv_iload (i := 6) hF.1 hF.2.1 (y_dcd_ok (by decide +kernel)) (lv_at hl 0 rfl) ?_
    refine lv_if_eq (off := 13) (tgt := 207) hF.1 hF.2.1 (y_dcd_ok (by decide +kernel)) (by decide) (fun hq => ?_) (fun hq => ?_)
    · have ht0 : t = none := by
        cases t with
        | none => rfl
        | some x =>
          obtain ⟨k1, _, k2, k3, _⟩ := ht
          rw [k1] at hq
          have := dni_injb (j := 0) (by omega) (by decide) hq
          omega
      subst ht0
      exact kv _ _ cw tys ls 207 rfl (by decide +kernel) hs ⟨rfl, rfl, V, L, hc, fun _ _ => rfl, fun _ _ => rfl, fun fr wh => by rw [jgo_best, hfin]; exact hB⟩
    obtain ⟨x, rfl⟩ : ∃ x, t = some x := by
      cases t with
      | none => exact absurd ht hq
      | some x => exact ⟨x, rfl⟩
    obtain ⟨rfl, rfl, k2, k3, k4⟩ := ht
    refine lv_aload_n (k := 0) hF.1 hF.2.1 (y_dcd_ok (by decide +kernel)) rfl (lv_at hl 2 rfl) ?_
    refine lv_iload_n (k := 1) hF.1 hF.2.1 (y_dcd_ok (by decide +kernel)) rfl (lv_at hl 3 rfl) ?_
    refine lv_iload_n (k := 2) hF.1 hF.2.1 (y_dcd_ok (by decide +kernel)) rfl (lv_at hl 4 rfl) ?_
    refine lv_iload (i := 6) hF.1 hF.2.1 (y_dcd_ok (by decide +kernel)) (lv_at hl 0 rfl) ?_
    refine lv_lload (i := 7) hF.1 hF.2.1 (y_dcd_ok (by decide +kernel)) (lv_at hl 1 rfl) ?_
    refine xcallV (As := [.int (nI r), .int (nI i), .int (nI x.1), .long (nL x.2)]) (rest := []) (n := 7166) (j := 71) hF hs hl.1 (hc.hO 93 (by decide)) (cm := xRid) yo_yr23 rfl (by decide) (by decide +kernel) (show _ = some 4 from by decide +kernel) (by decide +kernel) ⟨by decide, by decide⟩ ⟨rfl, rfl⟩ (Nat.le_of_ble_eq_true rfl) ⟨Nat.zero_le _, Nat.zero_le _⟩ (jM_rid huv hX hT hc hr hi (htb x rfl) hB) (fun H1 locs1 cw1 tys1 rv hs hX => ?_)
    obtain ⟨e1, e2, V', L', k1, k2, k3, k4⟩ := hX
    subst e1
    rw [e2] at hs
    exact kv _ _ cw1 tys ls 207 rfl (by decide +kernel) hs ⟨rfl, rfl, V', L', k1, k2, k3, fun fr wh => by rw [jgo_best, hfin]; exact k4⟩
  have loopQ : ∀ (d q : Nat), q + d = X.n → ∀ (H : Heap) (locs : List Loc) (t : Option jP) (x6 : Int32) (y7 : Int64) (ls : Array Slot), xs D s A H locs cw tys → jr t x6 y7 → (∀ x, t = some x → x.1 < 5000 ∧ x.2 < 2 ^ 40) → (jfo X P r i q).foldl joff t = (jfo X P r i 0).foldl joff none → lv_has ls 12 [(9, .int (nI q)), (6, .int x6), (7, .long y7), (0, .ref (ad 93)), (1, .int (nI r)), (2, .int (nI i)), (4, .int (nI st)), (5, .int la)] → W p l e (y_rm xChI) s m [Value.ref (ad 93), .int (nI r), .int (nI i)].toArray below meth c H locs 0 0 Q (F0 m 49 ls []) := by
    intro d
    induction d with
    | zero =>
      intro q hqd H locs t x6 y7 ls hs ht htb hfin hl
      refine lv_iload (i := 9) hF.1 hF.2.1 (y_dcd_ok (by decide +kernel)) (lv_at hl 0 rfl) ?_
      refine lv_aload_n (k := 0) hF.1 hF.2.1 (y_dcd_ok (by decide +kernel)) rfl (lv_at hl 3 rfl) ?_
      refine ggo (n := 3004) (index := 41) hF hs hc 93 (by decide) rfl 0 (by decide) (by decide +kernel) rfl (by decide +kernel) ?_
      refine ggo (n := 2180) (index := 48) hF hs hc 79 (by decide) rfl 2 (by decide) (by decide +kernel) rfl (by decide +kernel) ?_
      refine lv_icmp_ge (off := 134) (tgt := 192) hF.1 hF.2.1 (y_dcd_ok (by decide +kernel)) (by decide) (fun hq => ?_) (fun hq => ?_)
      · exact fin _ _ t x6 y7 ls hs ht htb (by rw [← hfin, jfo_n X P r i (by omega)]; rfl) (lv_sub hl [1, 2, 3, 4, 5] rfl)
      · exact absurd ((dni_le (by omega) (by omega)).mpr (by omega)) hq
    | succ d ih =>
      intro q hqd H locs t x6 y7 ls hs ht htb hfin hl
      have hq12 : q < 12 := by omega
      refine lv_iload (i := 9) hF.1 hF.2.1 (y_dcd_ok (by decide +kernel)) (lv_at hl 0 rfl) ?_
      refine lv_aload_n (k := 0) hF.1 hF.2.1 (y_dcd_ok (by decide +kernel)) rfl (lv_at hl 3 rfl) ?_
      refine ggo (n := 3004) (index := 41) hF hs hc 93 (by decide) rfl 0 (by decide) (by decide +kernel) rfl (by decide +kernel) ?_
      refine ggo (n := 2180) (index := 48) hF hs hc 79 (by decide) rfl 2 (by decide) (by decide +kernel) rfl (by decide +kernel) ?_
      refine lv_icmp_ge (off := 134) (tgt := 192) hF.1 hF.2.1 (y_dcd_ok (by decide +kernel)) (by decide) (fun hq => ?_) (fun hq => ?_)
      · exact absurd ((dni_le (by omega) (by omega)).mp hq) (by omega)
      clear hq
      rw [jfo_s X P r i (show q < X.n by omega)] at hfin
      refine lv_iload (i := 9) hF.1 hF.2.1 (y_dcd_ok (by decide +kernel)) (lv_at hl 0 rfl) ?_
      refine lv_iload_n (k := 1) hF.1 hF.2.1 (y_dcd_ok (by decide +kernel)) rfl (lv_at hl 4 rfl) ?_
      refine lv_icmp_ne (off := 6) (tgt := 70) hF.1 hF.2.1 (y_dcd_ok (by decide +kernel)) (by decide) (fun hq => ?_) (fun hq => ?_)
      rotate_left
      · have e0 := dni_injb (by omega) (by omega) hq
        rw [if_pos e0] at hfin
        refine lv_goto (off := 119) (tgt := 186) hF.1 hF.2.1 (y_dcd_ok (by decide +kernel)) (by decide) ?_
        refine lv_iinc (nL := 12) (i := 9) (n := 1) (k := 0) (v := nI (q + 1)) hF.1 hF.2.1 (y_dcd_ok (by decide +kernel)) hl rfl (dni_add (by omega)) (by decide) rfl (fun ls hl => ?_)
        refine lv_goto (off := (-140)) (tgt := 49) hF.1 hF.2.1 (y_dcd_ok (by decide +kernel)) (by decide) ?_
        exact ih (q + 1) (by omega) _ _ t x6 y7 ls hs ht htb hfin hl
      have hqr : q ≠ r := fun z => hq (by rw [z])
      rw [if_neg hqr] at hfin
      clear hq
      have loopJ : ∀ (dj j : Nat), j + dj = max (X.S q) 1 → ∀ (H : Heap) (locs : List Loc) (t : Option jP) (x6 : Int32) (y7 : Int64) (ls : Array Slot), xs D s A H locs cw tys → jr t x6 y7 → (∀ x, t = some x → x.1 < 5000 ∧ x.2 < 2 ^ 40) → (jfk X P r i q j ++ jfo X P r i (q + 1)).foldl joff t = (jfo X P r i 0).foldl joff none → lv_has ls 12 [(10, .int (nI j)), (9, .int (nI q)), (6, .int x6), (7, .long y7), (0, .ref (ad 93)), (1, .int (nI r)), (2, .int (nI i)), (4, .int (nI st)), (5, .int la)] → W p l e (y_rm xChI) s m [Value.ref (ad 93), .int (nI r), .int (nI i)].toArray below meth c H locs 0 0 Q (F0 m 73 ls []) := by
        intro dj
        have hSq := hX.S q hq12
        induction dj with
        | zero =>
          intro j hjd H locs t x6 y7 ls hs ht htb hfin hl
          refine lv_iload (i := 10) hF.1 hF.2.1 (y_dcd_ok (by decide +kernel)) (lv_at hl 0 rfl) ?_
          refine lv_aload_n (k := 0) hF.1 hF.2.1 (y_dcd_ok (by decide +kernel)) rfl (lv_at hl 4 rfl) ?_
          refine ggo (n := 3004) (index := 41) hF hs hc 93 (by decide) rfl 0 (by decide) (by decide +kernel) rfl (by decide +kernel) ?_
          refine ggo (n := 2184) (index := 51) hF hs hc 79 (by decide) rfl 4 (by decide) (by decide +kernel) rfl (by decide +kernel) ?_
          refine lv_iload (i := 9) hF.1 hF.2.1 (y_dcd_ok (by decide +kernel)) (lv_at hl 1 rfl) ?_
          refine gald hF hs hT hc 83 12 (by decide) (by decide) hq12 (by decide +kernel) ?_
          rw [hSq.1]
          refine lv_icmp_ge (off := 101) (tgt := 186) hF.1 hF.2.1 (y_dcd_ok (by decide +kernel)) (by decide) (fun hq => ?_) (fun hq => ?_)
          · rw [jfk_n X P r i q (by omega), List.nil_append] at hfin
            refine lv_iinc (nL := 12) (i := 9) (n := 1) (k := 1) (v := nI (q + 1)) hF.1 hF.2.1 (y_dcd_ok (by decide +kernel)) hl rfl (dni_add (by omega)) (by decide) rfl (fun ls hl => ?_)
            refine lv_goto (off := (-140)) (tgt := 49) hF.1 hF.2.1 (y_dcd_ok (by decide +kernel)) (by decide) ?_
            exact ih (q + 1) (by omega) _ _ t x6 y7 ls hs ht htb hfin (lv_sub hl [0, 2, 3, 4, 5, 6, 7, 8] rfl)
          · exact absurd ((dni_le (by omega) (by omega)).mpr (by omega)) hq
        | succ dj ihj =>
          intro j hjd H locs t x6 y7 ls hs ht htb hfin hl
          refine lv_iload (i := 10) hF.1 hF.2.1 (y_dcd_ok (by decide +kernel)) (lv_at hl 0 rfl) ?_
          refine lv_aload_n (k := 0) hF.1 hF.2.1 (y_dcd_ok (by decide +kernel)) rfl (lv_at hl 4 rfl) ?_
          refine ggo (n := 3004) (index := 41) hF hs hc 93 (by decide) rfl 0 (by decide) (by decide +kernel) rfl (by decide +kernel) ?_
          refine ggo (n := 2184) (index := 51) hF hs hc 79 (by decide) rfl 4 (by decide) (by decide +kernel) rfl (by decide +kernel) ?_
          refine lv_iload (i := 9) hF.1 hF.2.1 (y_dcd_ok (by decide +kernel)) (lv_at hl 1 rfl) ?_
          refine gald hF hs hT hc 83 12 (by decide) (by decide) hq12 (by decide +kernel) ?_
          rw [hSq.1]
          refine lv_icmp_ge (off := 101) (tgt := 186) hF.1 hF.2.1 (y_dcd_ok (by decide +kernel)) (by decide) (fun hq => ?_) (fun hq => ?_)
          · have hge := (dni_le (by omega) (by omega)).mp hq
            rw [jfk_n X P r i q hge, List.nil_append] at hfin
            refine lv_iinc (nL := 12) (i := 9) (n := 1) (k := 1) (v := nI (q + 1)) hF.1 hF.2.1 (y_dcd_ok (by decide +kernel)) hl rfl (dni_add (by omega)) (by decide) rfl (fun ls hl => ?_)
            refine lv_goto (off := (-140)) (tgt := 49) hF.1 hF.2.1 (y_dcd_ok (by decide +kernel)) (by decide) ?_
            exact ih (q + 1) (by omega) _ _ t x6 y7 ls hs ht htb hfin (lv_sub hl [0, 2, 3, 4, 5, 6, 7, 8] rfl)
          have hjS : j < X.S q := Nat.not_le.mp (fun z => hq ((dni_le (by omega) (by omega)).mpr z))
          clear hq
          have hpq : 8 * q + j < 96 := by omega
          have hPp := hP _ hpq
          have t1 := hX.st _ hpq
          have t2 := hX.ar _ hpq
          rw [jfk_s X P r i q hjS] at hfin
          have next : ∀ (H : Heap) (locs : List Loc) (t' : Option jP) (x6' : Int32) (y7' : Int64) (ls : Array Slot), xs D s A H locs cw tys → jr t' x6' y7' → (∀ x, t' = some x → x.1 < 5000 ∧ x.2 < 2 ^ 40) → (jfit X P r i q j).toList.foldl joff t = t' → lv_has ls 12 [(10, .int (nI j)), (9, .int (nI q)), (6, .int x6'), (7, .long y7'), (0, .ref (ad 93)), (1, .int (nI r)), (2, .int (nI i)), (4, .int (nI st)), (5, .int la)] → W p l e (y_rm xChI) s m [Value.ref (ad 93), .int (nI r), .int (nI i)].toArray below meth c H locs 0 0 Q (F0 m 180 ls []) := by
            intro H locs t' x6' y7' ls hs ht' htb' hstep hl
            refine lv_iinc (nL := 12) (i := 10) (n := 1) (k := 0) (v := nI (j + 1)) hF.1 hF.2.1 (y_dcd_ok (by decide +kernel)) hl rfl (dni_add (by omega)) (by decide) rfl (fun ls hl => ?_)
            refine lv_goto (off := (-110)) (tgt := 73) hF.1 hF.2.1 (y_dcd_ok (by decide +kernel)) (by decide) ?_
            refine ihj (j + 1) (by omega) _ _ t' x6' y7' ls hs ht' htb' ?_ hl
            rw [List.append_assoc, List.foldl_append, hstep] at hfin
            exact hfin
          refine lv_iload (i := 9) hF.1 hF.2.1 (y_dcd_ok (by decide +kernel)) (lv_at hl 1 rfl) ?_
          refine lv_bipush (n := 8) (v := 8) hF.1 hF.2.1 (y_dcd_ok (by decide +kernel)) (by decide) ?_
          refine lv_imul hF.1 hF.2.1 (y_dcd_ok (by decide +kernel)) ?_
          refine lv_iload (i := 10) hF.1 hF.2.1 (y_dcd_ok (by decide +kernel)) (lv_at hl 0 rfl) ?_
          refine lv_iadd hF.1 hF.2.1 (y_dcd_ok (by decide +kernel)) ?_
          rw [jpl (by omega) (by omega)]
          refine lv_istore (nL := 12) (i := 11) hF.1 hF.2.1 (y_dcd_ok (by decide +kernel)) hl (by decide) rfl (fun ls hl => ?_)
          refine lv_aload_n (k := 0) hF.1 hF.2.1 (y_dcd_ok (by decide +kernel)) rfl (lv_at hl 5 rfl) ?_
          refine ggo (n := 3016) (index := 35) hF hs hc 93 (by decide) rfl 8 (by decide) (by decide +kernel) rfl (by decide +kernel) ?_
          refine lv_iload (i := 11) hF.1 hF.2.1 (y_dcd_ok (by decide +kernel)) (lv_at hl 0 rfl) ?_
          refine gald hF hs hT hc v 96 hvI (by decide) hpq (by decide +kernel) ?_
          refine lv_if_eq (off := 75) (tgt := 180) hF.1 hF.2.1 (y_dcd_ok (by decide +kernel)) (by decide) (fun hq => ?_) (fun hq => ?_)
          · have e0 : P (8 * q + j) = none := by
              cases hc0 : P (8 * q + j) with
              | none => rfl
              | some x =>
                rw [hc0] at hPp
                obtain ⟨k1, _, k2, k3, _⟩ := hPp
                rw [k1] at hq
                have := dni_injb (j := 0) (by omega) (by decide) hq
                omega
            exact next _ _ t x6 y7 ls hs ht htb (by unfold jfit; rw [e0]; rfl) (lv_sub hl [1, 2, 3, 4, 5, 6, 7, 8, 9] rfl)
          obtain ⟨x, ex⟩ : ∃ x, P (8 * q + j) = some x := by
            cases hc0 : P (8 * q + j) with
            | none => rw [hc0] at hPp; exact absurd hPp hq
            | some x => exact ⟨x, rfl⟩
          clear hq
          have hfx : ∀ h : X.st (8 * q + j) = st ∧ X.ar (8 * q + j) + X.ch st ≤ X.dp (8 * r + i), jfit X P r i q j = some x := fun h => by
            unfold jfit
            rw [ex, ← est]
            exact if_pos h
          have hfn : ¬ (X.st (8 * q + j) = st ∧ X.ar (8 * q + j) + X.ch st ≤ X.dp (8 * r + i)) → jfit X P r i q j = none := fun h => by
            unfold jfit
            rw [ex, ← est]
            exact if_neg h
          have hxb := hPb _ x ex
          rw [ex] at hPp
          obtain ⟨k1, k2, k3, k4, k5⟩ := hPp
          refine lv_aload_n (k := 0) hF.1 hF.2.1 (y_dcd_ok (by decide +kernel)) rfl (lv_at hl 5 rfl) ?_
          refine ggo (n := 3004) (index := 41) hF hs hc 93 (by decide) rfl 0 (by decide) (by decide +kernel) rfl (by decide +kernel) ?_
          refine ggo (n := 2187) (index := 65) hF hs hc 79 (by decide) rfl 5 (by decide) (by decide +kernel) rfl (by decide +kernel) ?_
          refine lv_iload (i := 11) hF.1 hF.2.1 (y_dcd_ok (by decide +kernel)) (lv_at hl 0 rfl) ?_
          refine gald hF hs hT hc 84 96 (by decide) (by decide) hpq (by decide +kernel) ?_
          rw [t1.1]
          refine lv_iload (i := 4) hF.1 hF.2.1 (y_dcd_ok (by decide +kernel)) (lv_at hl 8 rfl) ?_
          refine lv_icmp_ne (off := 60) (tgt := 180) hF.1 hF.2.1 (y_dcd_ok (by decide +kernel)) (by decide) (fun hq => ?_) (fun hq => ?_)
          · exact next _ _ t x6 y7 ls hs ht htb (by rw [hfn (fun z => hq (by rw [z.1]))]; rfl) (lv_sub hl [1, 2, 3, 4, 5, 6, 7, 8, 9] rfl)
          have hse := dni_injb (by omega) (by omega) hq
          clear hq
          refine lv_aload_n (k := 0) hF.1 hF.2.1 (y_dcd_ok (by decide +kernel)) rfl (lv_at hl 5 rfl) ?_
          refine ggo (n := 3004) (index := 41) hF hs hc 93 (by decide) rfl 0 (by decide) (by decide +kernel) rfl (by decide +kernel) ?_
          refine ggo (n := 2189) (index := 78) hF hs hc 79 (by decide) rfl 6 (by decide) (by decide +kernel) rfl (by decide +kernel) ?_
          refine lv_iload (i := 11) hF.1 hF.2.1 (y_dcd_ok (by decide +kernel)) (lv_at hl 0 rfl) ?_
          refine gald hF hs hT hc 85 96 (by decide) (by decide) hpq (by decide +kernel) ?_
          rw [t2.1]
          refine lv_iload (i := 5) hF.1 hF.2.1 (y_dcd_ok (by decide +kernel)) (lv_at hl 9 rfl) ?_
          refine lv_icmp_gt (off := 45) (tgt := 180) hF.1 hF.2.1 (y_dcd_ok (by decide +kernel)) (by decide) (fun hq => ?_) (fun hq => ?_)
          · have q1 := Int32.lt_iff_toInt_lt.mp hq
            rw [hla, dni_int (by omega)] at q1
            exact next _ _ t x6 y7 ls hs ht htb (by rw [hfn (fun z => by omega)]; rfl) (lv_sub hl [1, 2, 3, 4, 5, 6, 7, 8, 9] rfl)
          have hfit := hfx ⟨hse, by
            have q1 : ¬ la.toInt < (nI (X.ar (8 * q + j))).toInt := fun z => hq (Int32.lt_iff_toInt_lt.mpr z)
            rw [hla, dni_int (by omega)] at q1
            omega⟩
          clear hq
          refine lv_aload_n (k := 0) hF.1 hF.2.1 (y_dcd_ok (by decide +kernel)) rfl (lv_at hl 5 rfl) ?_
          refine ggo (n := 3016) (index := 35) hF hs hc 93 (by decide) rfl 8 (by decide) (by decide +kernel) rfl (by decide +kernel) ?_
          refine lv_iload (i := 11) hF.1 hF.2.1 (y_dcd_ok (by decide +kernel)) (lv_at hl 0 rfl) ?_
          refine gald hF hs hT hc v 96 hvI (by decide) hpq (by decide +kernel) ?_
          rw [k1]
          refine lv_aload_n (k := 0) hF.1 hF.2.1 (y_dcd_ok (by decide +kernel)) rfl (lv_at hl 5 rfl) ?_
          refine ggo (n := 3017) (index := 38) hF hs hc 93 (by decide) rfl 9 (by decide) (by decide +kernel) rfl (by decide +kernel) ?_
          refine lv_iload (i := 11) hF.1 hF.2.1 (y_dcd_ok (by decide +kernel)) (lv_at hl 0 rfl) ?_
          refine glald hF hs hT hc (v + 1) 96 hvJ (by decide) hpq (by decide +kernel) ?_
          rw [k2]
          refine lv_iload (i := 6) hF.1 hF.2.1 (y_dcd_ok (by decide +kernel)) (lv_at hl 3 rfl) ?_
          refine lv_lload (i := 7) hF.1 hF.2.1 (y_dcd_ok (by decide +kernel)) (lv_at hl 4 rfl) ?_
          refine xcallS (As := [.int _, .long _, .int _, .long _]) (rest := []) (n := 7177) (j := 79) hF hs hl.1 (cm := xBet) yo_ym23 (by decide) (by decide +kernel) (show _ = some 4 from by decide +kernel) (by decide +kernel) ⟨by decide, by decide⟩ ⟨rfl, rfl⟩ (Nat.le_of_ble_eq_true rfl) ⟨Nat.zero_le _, Nat.zero_le _⟩ (jM_bet (a := x) ⟨by omega, by omega⟩ ht) (fun H2 locs2 cw2 tys2 rv hs2 hX2 => ?_)
          obtain ⟨e1, e2', e3'⟩ := hX2
          subst e1
          rw [e2', e3'] at hs2
          show W _ _ _ _ _ _ _ _ _ _ _ _ _ _ _ (F0 m 159 ls [.int _])
          have hjo : joff t x = if jbt t x = true then some x else t := joff_bt t x
          refine lv_if_eq (off := 21) (tgt := 180) hF.1 hF.2.1 (y_dcd_ok (by decide +kernel)) (by decide) (fun hq => ?_) (fun hq => ?_)
          · have hb : ¬ jbt t x = true := fun z => by
              rw [if_pos z] at hq
              exact absurd hq (by decide)
            rw [if_neg hb] at hjo
            exact next _ _ t x6 y7 ls hs2 ht htb (by rw [hfit]; exact hjo) (lv_sub hl [1, 2, 3, 4, 5, 6, 7, 8, 9] rfl)
          have hb : jbt t x = true := by
            cases hb : jbt t x with
            | true => rfl
            | false =>
              rw [hb] at hq
              exact absurd rfl hq
          rw [if_pos hb] at hjo
          refine lv_aload_n (k := 0) hF.1 hF.2.1 (y_dcd_ok (by decide +kernel)) rfl (lv_at hl 5 rfl) ?_
          refine ggo (n := 3016) (index := 35) hF hs2 hc 93 (by decide) rfl 8 (by decide) (by decide +kernel) rfl (by decide +kernel) ?_
          refine lv_iload (i := 11) hF.1 hF.2.1 (y_dcd_ok (by decide +kernel)) (lv_at hl 0 rfl) ?_
          refine gald hF hs2 hT hc v 96 hvI (by decide) hpq (by decide +kernel) ?_
          rw [k1]
          refine lv_istore (nL := 12) (i := 6) hF.1 hF.2.1 (y_dcd_ok (by decide +kernel)) hl (by decide) rfl (fun ls hl => ?_)
          refine lv_aload_n (k := 0) hF.1 hF.2.1 (y_dcd_ok (by decide +kernel)) rfl (lv_at hl 5 rfl) ?_
          refine ggo (n := 3017) (index := 38) hF hs2 hc 93 (by decide) rfl 9 (by decide) (by decide +kernel) rfl (by decide +kernel) ?_
          refine lv_iload (i := 11) hF.1 hF.2.1 (y_dcd_ok (by decide +kernel)) (lv_at hl 1 rfl) ?_
          refine glald hF hs2 hT hc (v + 1) 96 hvJ (by decide) hpq (by decide +kernel) ?_
          rw [k2]
          refine lv_lstore (nL := 12) (i := 7) hF.1 hF.2.1 (y_dcd_ok (by decide +kernel)) hl (by decide) rfl (fun ls hl => ?_)
          exact next _ _ (some x) _ _ ls hs2 ⟨rfl, rfl, k3, k4, k5⟩ (fun y hy => by rw [← Option.some.inj hy]; exact hxb) (by rw [hfit]; exact hjo) (lv_sub hl [3, 4, 1, 0, 5, 6, 7, 8, 9] rfl)
      refine lv_iconst (n := 1) (v := 1) hF.1 hF.2.1 (y_dcd_ok (by decide +kernel)) (by decide) ?_
      refine lv_istore (nL := 12) (i := 10) hF.1 hF.2.1 (y_dcd_ok (by decide +kernel)) hl (by decide) rfl (fun ls hl => ?_)
      exact loopJ (max (X.S q) 1 - 1) 1 (by omega) _ _ t x6 y7 ls hs ht htb hfin hl
  refine lv_iload_n (k := 1) hF.1 hF.2.1 (y_dcd_ok (by decide +kernel)) rfl (lv_at hl 1 rfl) ?_
  refine lv_bipush (n := 8) (v := 8) hF.1 hF.2.1 (y_dcd_ok (by decide +kernel)) (by decide) ?_
  refine lv_imul hF.1 hF.2.1 (y_dcd_ok (by decide +kernel)) ?_
  refine lv_iload_n (k := 2) hF.1 hF.2.1 (y_dcd_ok (by decide +kernel)) rfl (lv_at hl 2 rfl) ?_
  refine lv_iadd hF.1 hF.2.1 (y_dcd_ok (by decide +kernel)) ?_
  rw [jpl (by omega) (by omega)]
  refine lv_istore_n (nL := 12) (k := 3) hF.1 hF.2.1 (y_dcd_ok (by decide +kernel)) rfl hl (by decide) rfl (fun ls hl => ?_)
  refine lv_aload_n (k := 0) hF.1 hF.2.1 (y_dcd_ok (by decide +kernel)) rfl (lv_at hl 1 rfl) ?_
  refine ggo (n := 3004) (index := 41) hF hs hc 93 (by decide) rfl 0 (by decide) (by decide +kernel) rfl (by decide +kernel) ?_
  refine ggo (n := 2187) (index := 65) hF hs hc 79 (by decide) rfl 5 (by decide) (by decide +kernel) rfl (by decide +kernel) ?_
  refine lv_iload_n (k := 3) hF.1 hF.2.1 (y_dcd_ok (by decide +kernel)) rfl (lv_at hl 0 rfl) ?_
  refine gald hF hs hT hc 84 96 (by decide) (by decide) hp (by decide +kernel) ?_
  rw [s1.1]
  refine lv_istore (nL := 12) (i := 4) hF.1 hF.2.1 (y_dcd_ok (by decide +kernel)) hl (by decide) rfl (fun ls hl => ?_)
  refine lv_aload_n (k := 0) hF.1 hF.2.1 (y_dcd_ok (by decide +kernel)) rfl (lv_at hl 2 rfl) ?_
  refine ggo (n := 3004) (index := 41) hF hs hc 93 (by decide) rfl 0 (by decide) (by decide +kernel) rfl (by decide +kernel) ?_
  refine ggo (n := 2191) (index := 68) hF hs hc 79 (by decide) rfl 7 (by decide) (by decide +kernel) rfl (by decide +kernel) ?_
  refine lv_iload_n (k := 3) hF.1 hF.2.1 (y_dcd_ok (by decide +kernel)) rfl (lv_at hl 1 rfl) ?_
  refine gald hF hs hT hc 86 96 (by decide) (by decide) hp (by decide +kernel) ?_
  rw [s2.1]
  refine lv_aload_n (k := 0) hF.1 hF.2.1 (y_dcd_ok (by decide +kernel)) rfl (lv_at hl 2 rfl) ?_
  refine ggo (n := 3004) (index := 41) hF hs hc 93 (by decide) rfl 0 (by decide) (by decide +kernel) rfl (by decide +kernel) ?_
  refine ggo (n := 2175) (index := 75) hF hs hc 79 (by decide) rfl 0 (by decide) (by decide +kernel) rfl (by decide +kernel) ?_
  refine lv_iload (i := 4) hF.1 hF.2.1 (y_dcd_ok (by decide +kernel)) (lv_at hl 0 rfl) ?_
  refine gald hF hs hT hc 80 8 (by decide) (by decide) s1.2 (by decide +kernel) ?_
  rw [s3.1]
  refine lv_isub hF.1 hF.2.1 (y_dcd_ok (by decide +kernel)) ?_
  rw [← ela]
  refine lv_istore (nL := 12) (i := 5) hF.1 hF.2.1 (y_dcd_ok (by decide +kernel)) hl (by decide) rfl (fun ls hl => ?_)
  refine lv_iconst (n := 0) (v := 0) hF.1 hF.2.1 (y_dcd_ok (by decide +kernel)) (by decide) ?_
  refine lv_istore (nL := 12) (i := 6) hF.1 hF.2.1 (y_dcd_ok (by decide +kernel)) hl (by decide) rfl (fun ls hl => ?_)
  refine lv_lconst (n := 0) (v := nL 0) hF.1 hF.2.1 (y_dcd_ok (by decide +kernel)) (by decide) ?_
  refine lv_lstore (nL := 12) (i := 7) hF.1 hF.2.1 (y_dcd_ok (by decide +kernel)) hl (by decide) rfl (fun ls hl => ?_)
  refine lv_iconst (n := 0) (v := 0) hF.1 hF.2.1 (y_dcd_ok (by decide +kernel)) (by decide) ?_
  refine lv_istore (nL := 12) (i := 9) hF.1 hF.2.1 (y_dcd_ok (by decide +kernel)) hl (by decide) rfl (fun ls hl => ?_)
  exact loopQ X.n 0 (by omega) _ _ none 0 (nL 0) ls hs rfl (fun x hx => by cases hx) rfl (lv_sub hl [0, 2, 1, 6, 7, 8, 4, 3] rfl)
theorem jOb_sw (ad : Nat → Nat) (op : Int32) (u v : Nat) (rn ho he : Int32) : xob (xob (xob (xob (jOb ad op u v rn ho he) 93 8 (.ref (ad u))) 93 9 (.ref (ad (u + 1)))) 93 6 (.ref (ad v))) 93 7 (.ref (ad (v + 1))) = jOb ad op v u rn ho he := by
  funext q
  by_cases e : q = 93
  · subst e
    rfl
  · unfold xob
    rw [if_neg e, if_neg e, if_neg e, if_neg e]
    unfold jOb
    split
    · exact absurd rfl e
    · rfl
theorem jOb_op (ad : Nat → Nat) (op x : Int32) (u v : Nat) (rn ho he : Int32) : xob (jOb ad op u v rn ho he) 93 1 (.int x) = jOb ad x u v rn ho he := by
  funext q
  by_cases e : q = 93
  · subst e
    rfl
  · unfold xob
    rw [if_neg e]
    unfold jOb
    split
    · exact absurd rfl e
    · rfl
set_option maxHeartbeats 1000000 in
theorem jM_beL {op : Int32} {u v : Nat} (huv : jUV u v) {rn ho he : Int32} (hT : xgT jI jJ cI tys) (hc : jW ad cI op u v rn ho he V L cw) : Met l (y_y xBeL) (y_ws ztb xBeL) (y_rm xBeL) (y_Pc znw b zcls D cw tys sz [.ref (ad 93)]) (y_Q zcls D (fun cw' tys' rv => rv = none ∧ tys' = tys ∧ ∃ V', jW ad cI op v u rn ho he V' L cw' ∧ (∀ q, q ≠ v → V' q = V q) ∧ jtab (fun _ => none) (V' v) (L (v + 1))) cw sz) 0 0 (va_A cw sz) := by
  refine xMet (tb := ytb yw00) (mr := xBeL) yo_yr18 (fun x hx => by cases hx) (Nat.le_of_ble_eq_true rfl) ?_
  intro p e s m below meth c Q ls hsz hF hs hl kv ki
  have hl : lv_has ls 4 [(0, .ref (ad 93))] := hl
  generalize va_A cw sz = A at *
  obtain ⟨⟨huI, huJ⟩, hvI, hvJ⟩ := jUV_ok huv
  refine lv_aload_n (k := 0) hF.1 hF.2.1 (y_dcd_ok (by decide +kernel)) rfl (lv_at hl 0 rfl) ?_
  refine ggo (n := 3016) (index := 35) hF hs hc 93 (by decide) rfl 8 (by decide) (by decide +kernel) rfl (by decide +kernel) ?_
  refine lv_astore_n (nL := 4) (k := 1) hF.1 hF.2.1 (y_dcd_ok (by decide +kernel)) rfl hl (by decide) rfl (fun ls hl => ?_)
  refine lv_aload_n (k := 0) hF.1 hF.2.1 (y_dcd_ok (by decide +kernel)) rfl (lv_at hl 1 rfl) ?_
  refine ggo (n := 3017) (index := 38) hF hs hc 93 (by decide) rfl 9 (by decide) (by decide +kernel) rfl (by decide +kernel) ?_
  refine lv_astore_n (nL := 4) (k := 2) hF.1 hF.2.1 (y_dcd_ok (by decide +kernel)) rfl hl (by decide) rfl (fun ls hl => ?_)
  refine lv_aload_n (k := 0) hF.1 hF.2.1 (y_dcd_ok (by decide +kernel)) rfl (lv_at hl 2 rfl) ?_
  refine lv_aload_n (k := 0) hF.1 hF.2.1 (y_dcd_ok (by decide +kernel)) rfl (lv_at hl 2 rfl) ?_
  refine ggo (n := 3014) (index := 29) hF hs hc 93 (by decide) rfl 6 (by decide) (by decide +kernel) rfl (by decide +kernel) ?_
  refine gpo (n := 3016) (index := 35) hF hs hc 93 (by decide) rfl 8 (by decide) (by decide +kernel) rfl (ty := .array .int) (by decide +kernel) rfl rfl (Nat.le_of_ble_eq_true rfl) (by decide +kernel) (fun H locs cw hs hc => ?_)
  refine lv_aload_n (k := 0) hF.1 hF.2.1 (y_dcd_ok (by decide +kernel)) rfl (lv_at hl 2 rfl) ?_
  refine lv_aload_n (k := 0) hF.1 hF.2.1 (y_dcd_ok (by decide +kernel)) rfl (lv_at hl 2 rfl) ?_
  refine ggo (n := 3015) (index := 32) hF hs hc 93 (by decide) rfl 7 (by decide) (by decide +kernel) rfl (by decide +kernel) ?_
  refine gpo (n := 3017) (index := 38) hF hs hc 93 (by decide) rfl 9 (by decide) (by decide +kernel) rfl (ty := .array .long) (by decide +kernel) rfl rfl (Nat.le_of_ble_eq_true rfl) (by decide +kernel) (fun H locs cw hs hc => ?_)
  refine lv_aload_n (k := 0) hF.1 hF.2.1 (y_dcd_ok (by decide +kernel)) rfl (lv_at hl 2 rfl) ?_
  refine lv_aload_n (k := 1) hF.1 hF.2.1 (y_dcd_ok (by decide +kernel)) rfl (lv_at hl 1 rfl) ?_
  refine gpo (n := 3014) (index := 29) hF hs hc 93 (by decide) rfl 6 (by decide) (by decide +kernel) rfl (ty := .array .int) (by decide +kernel) rfl rfl (Nat.le_of_ble_eq_true rfl) (by decide +kernel) (fun H locs cw hs hc => ?_)
  refine lv_aload_n (k := 0) hF.1 hF.2.1 (y_dcd_ok (by decide +kernel)) rfl (lv_at hl 2 rfl) ?_
  refine lv_aload_n (k := 2) hF.1 hF.2.1 (y_dcd_ok (by decide +kernel)) rfl (lv_at hl 0 rfl) ?_
  refine gpo (n := 3015) (index := 32) hF hs hc 93 (by decide) rfl 7 (by decide) (by decide +kernel) rfl (ty := .array .long) (by decide +kernel) rfl rfl (Nat.le_of_ble_eq_true rfl) (by decide +kernel) (fun H locs cw hs hc => ?_)
  rw [jOb_sw] at hc
  have loop : ∀ (d k : Nat), k + d = 96 → ∀ (H : Heap) (locs : List Loc) (cw : va_W) (V1 : Nat → Nat → Int32) (ls : Array Slot), xs D s A H locs cw tys → jW ad cI op v u rn ho he V1 L cw → (∀ q, q ≠ v → V1 q = V q) → (∀ j, j < k → V1 v j = 0) → lv_has ls 4 [(3, .int (nI k)), (0, .ref (ad 93))] → W p l e (y_rm xBeL) s m [Value.ref (ad 93)].toArray below meth c H locs 0 0 Q (F0 m 38 ls []) := by
    intro d
    induction d with
    | zero =>
      intro k hk H locs cw V1 ls hs hc h1 h2 hl
      refine lv_iload_n (k := 3) hF.1 hF.2.1 (y_dcd_ok (by decide +kernel)) rfl (lv_at hl 0 rfl) ?_
      refine lv_bipush (n := 96) (v := 96) hF.1 hF.2.1 (y_dcd_ok (by decide +kernel)) (by decide) ?_
      refine lv_icmp_ge (off := 16) (tgt := 57) hF.1 hF.2.1 (y_dcd_ok (by decide +kernel)) (by decide) (fun hq => ?_) (fun hq => ?_)
      · exact kv _ _ cw tys ls 57 rfl (by decide +kernel) hs ⟨rfl, rfl, V1, hc, h1, fun p hp => h2 p (by omega)⟩
      · exact absurd ((dni_le (i := 96) (by omega) (by omega)).mpr (by omega)) hq
    | succ d ih =>
      intro k hk H locs cw V1 ls hs hc h1 h2 hl
      refine lv_iload_n (k := 3) hF.1 hF.2.1 (y_dcd_ok (by decide +kernel)) rfl (lv_at hl 0 rfl) ?_
      refine lv_bipush (n := 96) (v := 96) hF.1 hF.2.1 (y_dcd_ok (by decide +kernel)) (by decide) ?_
      refine lv_icmp_ge (off := 16) (tgt := 57) hF.1 hF.2.1 (y_dcd_ok (by decide +kernel)) (by decide) (fun hq => ?_) (fun hq => ?_)
      · exact absurd ((dni_le (i := 96) (by omega) (by omega)).mp hq) (by omega)
      refine lv_aload_n (k := 0) hF.1 hF.2.1 (y_dcd_ok (by decide +kernel)) rfl (lv_at hl 1 rfl) ?_
      refine ggo (n := 3014) (index := 29) hF hs hc 93 (by decide) rfl 6 (by decide) (by decide +kernel) rfl (by decide +kernel) ?_
      refine lv_iload_n (k := 3) hF.1 hF.2.1 (y_dcd_ok (by decide +kernel)) rfl (lv_at hl 0 rfl) ?_
      refine lv_iconst (n := 0) (v := 0) hF.1 hF.2.1 (y_dcd_ok (by decide +kernel)) (by decide) ?_
      refine gast hF hs hT hc v 96 hvI (by decide) (show k < 96 by omega) (by decide +kernel) (fun H locs cw hs hc => ?_)
      refine lv_iinc (nL := 4) (i := 3) (n := 1) (k := 0) (v := nI (k + 1)) hF.1 hF.2.1 (y_dcd_ok (by decide +kernel)) hl rfl (dni_add (by omega)) (by decide) rfl (fun ls hl => ?_)
      refine lv_goto (off := (-16)) (tgt := 38) hF.1 hF.2.1 (y_dcd_ok (by decide +kernel)) (by decide) ?_
      refine ih (k + 1) (by omega) _ _ cw _ ls hs hc (fun q hq => by rw [xup_n _ _ _ hq]; exact h1 q hq) (fun j hj => ?_) hl
      rw [xup_s]
      by_cases e : j = k
      · subst e
        simp [upd]
      · have := h2 j (by omega)
        simp [upd, e, this]
  refine lv_iconst (n := 0) (v := 0) hF.1 hF.2.1 (y_dcd_ok (by decide +kernel)) (by decide) ?_
  refine lv_istore_n (nL := 4) (k := 3) hF.1 hF.2.1 (y_dcd_ok (by decide +kernel)) rfl hl (by decide) rfl (fun ls hl => ?_)
  exact loop 96 0 (by omega) _ _ cw V ls hs hc (fun _ _ => rfl) (fun j hj => absurd hj (Nat.not_lt_zero _)) (lv_sub hl [0, 3] rfl)
end YB
