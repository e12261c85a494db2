-- journeys of the reference: isBeaten
abbrev xBea : yMR := xmr ⟨"RailwayHouseModel", "isBeaten", "(III)Z"⟩ prog_14_method_153_code 11 (some .boolean) ⟨1, 0, 0, 60⟩ 12
/-- those with at most g legs, from m on -/
def jpg (X : jT) (fr wh to g m : Nat) : List jO := (List.range' m (g - m)).flatMap fun m => jpk X (jtb X fr wh m) to (m + 1) 0
theorem jpg_s (X : jT) (fr wh to : Nat) {g m : Nat} (h : m < g) : jpg X fr wh to g m = jpk X (jtb X fr wh m) to (m + 1) 0 ++ jpg X fr wh to g (m + 1) := by
  unfold jpg
  rw [show g - m = (g - (m + 1)) + 1 by omega, List.range'_succ, List.flatMap_cons]
theorem jpg_n (X : jT) (fr wh to : Nat) {g m : Nat} (h : g ≤ m) : jpg X fr wh to g m = [] := by
  unfold jpg
  rw [Nat.sub_eq_zero_of_le h]
  rfl
/-- beaten among those with no more legs: beaten -/
theorem jpg_any {X : jT} (hX : jX X) (fr wh to : Nat) {x : jO} (hx : x.m ≤ 4) : ((jpg X fr wh to x.m 0).any fun y => decide (jdm y x)) = true ↔ ∃ y ∈ jpm X fr wh to 0, jdm y x := by
  rw [List.any_eq_true]
  constructor
  · rintro ⟨y, hy, hd⟩
    obtain ⟨m, hm, hy⟩ := List.mem_flatMap.mp hy
    have hm := List.mem_range'_1.mp hm
    exact ⟨y, List.mem_flatMap.mpr ⟨m, List.mem_range'_1.mpr (by omega), hy⟩, of_decide_eq_true hd⟩
  · rintro ⟨y, hy, hd⟩
    obtain ⟨m, hm, hy⟩ := List.mem_flatMap.mp hy
    obtain ⟨p, _, hp⟩ := List.mem_filterMap.mp hy
    have h1 := (jca_p hX hp).1
    have h2 := hd.1.2.1
    have hm := List.mem_range'_1.mp hm
    exact ⟨y, List.mem_flatMap.mpr ⟨m, List.mem_range'_1.mpr (by omega), hy⟩, decide_eq_true hd⟩
section ZD
variable {l : Launch} {D : va_G} {b : Nat → Nat} {cw : va_W} {tys : List (ClassId × FieldType)} {sz : Nat} {ad : Nat → Nat} {cI : Nat → ClassId} {V : Nat → Nat → Int32} {L : Nat → Nat → Int64}
set_option maxHeartbeats 8000000 in
theorem kM_bea {op : Int32} {vs : List Value} {X : jT} (hv : kMv ad X.n op vs) (hX : kVc X V) (hT : xgT kI kJ cI tys) (hc : kW ad cI vs V L cw) {fr wh to : Nat} (hto : to < 8) (hB : ∀ m0, m0 < 4 → ktm (jtb X fr wh m0) (m0 + 1) (V 201) (L 202)) {x : jO} (hx : jxb x) {st : Nat} (hst : st < 96) (hm1 : 1 ≤ x.m) (hm : x.m ≤ 4) (ha : X.ar st = x.a) (hf : V 201 (96 * x.m + st) = nI x.f) (hcc : L 202 (96 * x.m + st) = nL x.c) : Met l (y_y xBea) (y_ws ztb xBea) (y_rm xBea) (y_Pc znw b zcls D cw tys sz [.ref (ad 114), .int (nI to), .int (nI x.m), .int (nI st)]) (y_Q zcls D (fun cw' tys' rv => rv = some (.int (if ((jpg X fr wh to x.m 0).any fun y => decide (jdm y x)) = true then 1 else 0)) ∧ tys' = tys ∧ cw' = cw) cw sz) 0 0 (va_A cw sz) := by
  refine xMet (tb := ytb yw00) (mr := xBea) yo_yr235 (fun x hx => by cases hx) (Nat.le_of_ble_eq_true rfl) ?_
  intro p e s m below meth c Q ls hsz hF hs hl kv ki
  have hl : lv_has ls 11 [(0, .ref (ad 114)), (1, .int (nI to)), (2, .int (nI x.m)), (3, .int (nI st))] := hl
  obtain ⟨x1, x2, x3, x4⟩ := id hx
  have hxi : 96 * x.m + st < 480 := by omega
  have har : V 199 st = nI x.a := by rw [← ha]; exact (hX.ar st hst).1
  have loopM : ∀ (d m0 : Nat), m0 + d = x.m → ∀ (β : Bool) (ls : Array Slot), (β || (jpg X fr wh to x.m m0).any fun y => decide (jdm y x)) = (jpg X fr wh to x.m 0).any (fun y => decide (jdm y x)) → lv_has ls 11 [(6, .int (nI (m0 + 1))), (5, .int (if β = true then 1 else 0)), (4, .int (nI (96 * x.m + st))), (0, .ref (ad 114)), (1, .int (nI to)), (2, .int (nI x.m)), (3, .int (nI st))] → W p l e (y_rm xBea) s m [Value.ref (ad 114), .int (nI to), .int (nI x.m), .int (nI st)].toArray below meth c s.heap [] 0 0 Q (F0 m 14 ls []) := by
    intro d
    induction d with
    | zero =>
      intro m0 hmd β ls hfin hl
      refine lv_iload (i := 6) hF.1 hF.2.1 (y_dcd_ok (by decide +kernel)) (lv_at hl 0 rfl) ?_
      refine lv_iload_n (k := 2) hF.1 hF.2.1 (y_dcd_ok (by decide +kernel)) rfl (lv_at hl 5 rfl) ?_
      refine lv_icmp_gt (off := 182) (tgt := 199) hF.1 hF.2.1 (y_dcd_ok (by decide +kernel)) (by decide) (fun hq => ?_) (fun hq => ?_)
      · show W _ _ _ _ _ _ _ _ _ _ _ _ _ _ _ (F0 m 199 ls [])
        refine lv_iload (i := 5) hF.1 hF.2.1 (y_dcd_ok (by decide +kernel)) (lv_at hl 1 rfl) ?_
        rw [jpg_n X fr wh to (by omega), List.any_nil, Bool.or_false] at hfin
        refine ki _ _ cw tys ls 201 _ .boolean rfl ?_ (by decide +kernel) hs ⟨by rw [hfin], rfl, rfl⟩
        cases β <;> rfl
      · exact absurd ((dni_ltb (by omega) (by omega)).mpr (by omega)) hq
    | succ d ih =>
      intro m0 hmd β ls hfin hl
      rw [jpg_s X fr wh to (show m0 < x.m by omega)] at hfin
      have hBm := hB m0 (by omega)
      refine lv_iload (i := 6) hF.1 hF.2.1 (y_dcd_ok (by decide +kernel)) (lv_at hl 0 rfl) ?_
      refine lv_iload_n (k := 2) hF.1 hF.2.1 (y_dcd_ok (by decide +kernel)) rfl (lv_at hl 5 rfl) ?_
      refine lv_icmp_gt (off := 182) (tgt := 199) hF.1 hF.2.1 (y_dcd_ok (by decide +kernel)) (by decide) (fun hq => ?_) (fun hq => ?_)
      · exact absurd ((dni_ltb (by omega) (by omega)).mp hq) (by omega)
      clear hq
      have loopP : ∀ (dq q : Nat), q + dq = 96 → ∀ (β : Bool) (ls : Array Slot), (β || (jpk X (jtb X fr wh m0) to (m0 + 1) q ++ jpg X fr wh to x.m (m0 + 1)).any fun y => decide (jdm y x)) = (jpg X fr wh to x.m 0).any (fun y => decide (jdm y x)) → lv_has ls 11 [(7, .int (nI q)), (6, .int (nI (m0 + 1))), (5, .int (if β = true then 1 else 0)), (4, .int (nI (96 * x.m + st))), (0, .ref (ad 114)), (1, .int (nI to)), (2, .int (nI x.m)), (3, .int (nI st))] → W p l e (y_rm xBea) s m [Value.ref (ad 114), .int (nI to), .int (nI x.m), .int (nI st)].toArray below meth c s.heap [] 0 0 Q (F0 m 23 ls []) := by
        intro dq
        induction dq with
        | zero =>
          intro q hqd β ls hfin hl
          have e96 : q = 96 := by omega
          subst e96
          rw [jpk_n, List.nil_append] at hfin
          refine lv_iload (i := 7) hF.1 hF.2.1 (y_dcd_ok (by decide +kernel)) (lv_at hl 0 rfl) ?_
          refine lv_bipush (n := 96) (v := 96) hF.1 hF.2.1 (y_dcd_ok (by decide +kernel)) (by decide) ?_
          refine lv_icmp_ge (off := 166) (tgt := 193) hF.1 hF.2.1 (y_dcd_ok (by decide +kernel)) (by decide) (fun hq => ?_) (fun hq => ?_)
          · show W _ _ _ _ _ _ _ _ _ _ _ _ _ _ _ (F0 m 193 ls [])
            refine lv_iinc (nL := 11) (i := 6) (n := 1) (k := 1) (v := nI (m0 + 1 + 1)) hF.1 hF.2.1 (y_dcd_ok (by decide +kernel)) hl rfl (dni_add (by omega)) (by decide) rfl (fun ls hl => ?_)
            refine lv_goto (off := (-182)) (tgt := 14) hF.1 hF.2.1 (y_dcd_ok (by decide +kernel)) (by decide) ?_
            exact ih (m0 + 1) (by omega) β ls hfin (lv_sub hl [0, 2, 3, 4, 5, 6, 7] rfl)
          · exact absurd (by decide) hq
        | succ dq ihq =>
          intro q hqd β ls hfin hl
          have hq96 : q < 96 := by omega
          have hyi : 96 * (m0 + 1) + q < 480 := by omega
          have t1 := hX.st q hq96
          have t2 := hX.ar q hq96
          have hBq := hBm q hq96
          rw [jpk_s X (jtb X fr wh m0) to (m0 + 1) hq96] at hfin
          refine lv_iload (i := 7) hF.1 hF.2.1 (y_dcd_ok (by decide +kernel)) (lv_at hl 0 rfl) ?_
          refine lv_bipush (n := 96) (v := 96) hF.1 hF.2.1 (y_dcd_ok (by decide +kernel)) (by decide) ?_
          refine lv_icmp_ge (off := 166) (tgt := 193) hF.1 hF.2.1 (y_dcd_ok (by decide +kernel)) (by decide) (fun hq => ?_) (fun hq => ?_)
          · exact absurd ((dni_leb (i := 96) (by omega) (by omega)).mp hq) (by omega)
          clear hq
          refine lv_bipush (n := 96) (v := 96) hF.1 hF.2.1 (y_dcd_ok (by decide +kernel)) (by decide) ?_
          refine lv_iload (i := 6) hF.1 hF.2.1 (y_dcd_ok (by decide +kernel)) (lv_at hl 1 rfl) ?_
          refine lv_imul hF.1 hF.2.1 (y_dcd_ok (by decide +kernel)) ?_
          refine lv_iload (i := 7) hF.1 hF.2.1 (y_dcd_ok (by decide +kernel)) (lv_at hl 0 rfl) ?_
          refine lv_iadd hF.1 hF.2.1 (y_dcd_ok (by decide +kernel)) ?_
          rw [kpl (by omega) (by omega)]
          refine lv_istore (nL := 11) (i := 8) hF.1 hF.2.1 (y_dcd_ok (by decide +kernel)) hl (by decide) rfl (fun ls hl => ?_)
          -- the flags are known
          have at165 : ∀ (i9 i10 : Int32), (¬ i9 = 0 ∧ ¬ i10 = 0 ↔ (jca X (jtb X fr wh m0) to (m0 + 1) q).toList.any (fun y => decide (jdm y x)) = true) → ∀ ls : Array Slot, lv_has ls 11 [(10, .int i10), (9, .int i9), (8, .int (nI (96 * (m0 + 1) + q))), (7, .int (nI q)), (6, .int (nI (m0 + 1))), (5, .int (if β = true then 1 else 0)), (4, .int (nI (96 * x.m + st))), (0, .ref (ad 114)), (1, .int (nI to)), (2, .int (nI x.m)), (3, .int (nI st))] → W p l e (y_rm xBea) s m [Value.ref (ad 114), .int (nI to), .int (nI x.m), .int (nI st)].toArray below meth c s.heap [] 0 0 Q (F0 m 165 ls []) := by
            intro i9 i10 hfl ls hl
            have next : ∀ (γ : Bool) (ls : Array Slot), γ = (β || (jca X (jtb X fr wh m0) to (m0 + 1) q).toList.any (fun y => decide (jdm y x))) → lv_has ls 11 [(7, .int (nI q)), (6, .int (nI (m0 + 1))), (5, .int (if γ = true then 1 else 0)), (4, .int (nI (96 * x.m + st))), (0, .ref (ad 114)), (1, .int (nI to)), (2, .int (nI x.m)), (3, .int (nI st))] → W p l e (y_rm xBea) s m [Value.ref (ad 114), .int (nI to), .int (nI x.m), .int (nI st)].toArray below meth c s.heap [] 0 0 Q (F0 m 187 ls []) := by
              intro γ ls hγ hl
              refine lv_iinc (nL := 11) (i := 7) (n := 1) (k := 0) (v := nI (q + 1)) hF.1 hF.2.1 (y_dcd_ok (by decide +kernel)) hl rfl (dni_add (by omega)) (by decide) rfl (fun ls hl => ?_)
              refine lv_goto (off := (-167)) (tgt := 23) hF.1 hF.2.1 (y_dcd_ok (by decide +kernel)) (by decide) ?_
              refine ihq (q + 1) (by omega) γ ls ?_ hl
              rw [hγ, ← hfin]
              simp only [List.any_append, Bool.or_assoc]
            have yes : (β || (jca X (jtb X fr wh m0) to (m0 + 1) q).toList.any (fun y => decide (jdm y x))) = true → ∀ ls : Array Slot, lv_has ls 11 [(10, .int i10), (9, .int i9), (8, .int (nI (96 * (m0 + 1) + q))), (7, .int (nI q)), (6, .int (nI (m0 + 1))), (5, .int (if β = true then 1 else 0)), (4, .int (nI (96 * x.m + st))), (0, .ref (ad 114)), (1, .int (nI to)), (2, .int (nI x.m)), (3, .int (nI st))] → W p l e (y_rm xBea) s m [Value.ref (ad 114), .int (nI to), .int (nI x.m), .int (nI st)].toArray below meth c s.heap [] 0 0 Q (F0 m 180 ls []) := fun hy ls hl => by
              refine lv_iconst (n := 1) (v := 1) hF.1 hF.2.1 (y_dcd_ok (by decide +kernel)) (by decide) ?_
              refine lv_goto (off := 4) (tgt := 185) hF.1 hF.2.1 (y_dcd_ok (by decide +kernel)) (by decide) ?_
              refine lv_istore (nL := 11) (i := 5) hF.1 hF.2.1 (y_dcd_ok (by decide +kernel)) hl (by decide) rfl (fun ls hl => ?_)
              exact next true ls hy.symm (lv_sub hl [4, 5, 0, 6, 7, 8, 9, 10] rfl)
            have no : (β || (jca X (jtb X fr wh m0) to (m0 + 1) q).toList.any (fun y => decide (jdm y x))) = false → ∀ ls : Array Slot, lv_has ls 11 [(10, .int i10), (9, .int i9), (8, .int (nI (96 * (m0 + 1) + q))), (7, .int (nI q)), (6, .int (nI (m0 + 1))), (5, .int (if β = true then 1 else 0)), (4, .int (nI (96 * x.m + st))), (0, .ref (ad 114)), (1, .int (nI to)), (2, .int (nI x.m)), (3, .int (nI st))] → W p l e (y_rm xBea) s m [Value.ref (ad 114), .int (nI to), .int (nI x.m), .int (nI st)].toArray below meth c s.heap [] 0 0 Q (F0 m 184 ls []) := fun hy ls hl => by
              refine lv_iconst (n := 0) (v := 0) hF.1 hF.2.1 (y_dcd_ok (by decide +kernel)) (by decide) ?_
              refine lv_istore (nL := 11) (i := 5) hF.1 hF.2.1 (y_dcd_ok (by decide +kernel)) hl (by decide) rfl (fun ls hl => ?_)
              exact next false ls hy.symm (lv_sub hl [4, 5, 0, 6, 7, 8, 9, 10] rfl)
            refine lv_iload (i := 5) hF.1 hF.2.1 (y_dcd_ok (by decide +kernel)) (lv_at hl 5 rfl) ?_
            refine lv_if_ne (off := 13) (tgt := 180) hF.1 hF.2.1 (y_dcd_ok (by decide +kernel)) (by decide) (fun hq => ?_) (fun hq => ?_)
            · have hβ : β = true := by
                cases β with
                | true => rfl
                | false => exact absurd rfl hq
              exact yes (by rw [hβ]; rfl) ls hl
            have hβ : β = false := by
              cases β with
              | true => exact absurd hq (by decide)
              | false => rfl
            clear hq
            refine lv_iload (i := 9) hF.1 hF.2.1 (y_dcd_ok (by decide +kernel)) (lv_at hl 1 rfl) ?_
            refine lv_if_eq (off := 12) (tgt := 184) hF.1 hF.2.1 (y_dcd_ok (by decide +kernel)) (by decide) (fun hq => ?_) (fun hq => ?_)
            · refine no ?_ ls hl
              rw [hβ, Bool.false_or]
              cases hz : (jca X (jtb X fr wh m0) to (m0 + 1) q).toList.any (fun y => decide (jdm y x)) with
              | true => exact absurd hq (hfl.mpr hz).1
              | false => rfl
            have h9 : ¬ i9 = 0 := hq
            clear hq
            refine lv_iload (i := 10) hF.1 hF.2.1 (y_dcd_ok (by decide +kernel)) (lv_at hl 0 rfl) ?_
            refine lv_if_eq (off := 7) (tgt := 184) hF.1 hF.2.1 (y_dcd_ok (by decide +kernel)) (by decide) (fun hq => ?_) (fun hq => ?_)
            · refine no ?_ ls hl
              rw [hβ, Bool.false_or]
              cases hz : (jca X (jtb X fr wh m0) to (m0 + 1) q).toList.any (fun y => decide (jdm y x)) with
              | true => exact absurd hq (hfl.mpr hz).2
              | false => rfl
            · exact yes (by rw [hfl.mp ⟨h9, hq⟩, Bool.or_true]) ls hl
          -- the second flag
          have at99 : ∀ (i9 : Int32), (i9 = 0 ∧ (jca X (jtb X fr wh m0) to (m0 + 1) q).toList.any (fun y => decide (jdm y x)) = false) ∨ (i9 = 1 ∧ ∃ b : jP, jtb X fr wh m0 q = some b ∧ X.st q = to ∧ X.ar q ≤ x.a ∧ b.1 ≤ x.f) → ∀ ls : Array Slot, lv_has ls 11 [(8, .int (nI (96 * (m0 + 1) + q))), (7, .int (nI q)), (6, .int (nI (m0 + 1))), (5, .int (if β = true then 1 else 0)), (4, .int (nI (96 * x.m + st))), (0, .ref (ad 114)), (1, .int (nI to)), (2, .int (nI x.m)), (3, .int (nI st))] → W p l e (y_rm xBea) s m [Value.ref (ad 114), .int (nI to), .int (nI x.m), .int (nI st)].toArray below meth c s.heap [] 0 0 Q (F0 m 99 ls [.int i9]) := by
            intro i9 h9 ls hl
            have yes : (∀ b : jP, jtb X fr wh m0 q = some b → X.st q = to → X.ar q ≤ x.a → b.1 ≤ x.f → m0 + 1 < x.m ∨ X.ar q < x.a ∨ b.1 < x.f ∨ b.2 < x.c) → ∀ ls : Array Slot, lv_has ls 11 [(9, .int i9), (8, .int (nI (96 * (m0 + 1) + q))), (7, .int (nI q)), (6, .int (nI (m0 + 1))), (5, .int (if β = true then 1 else 0)), (4, .int (nI (96 * x.m + st))), (0, .ref (ad 114)), (1, .int (nI to)), (2, .int (nI x.m)), (3, .int (nI st))] → W p l e (y_rm xBea) s m [Value.ref (ad 114), .int (nI to), .int (nI x.m), .int (nI st)].toArray below meth c s.heap [] 0 0 Q (F0 m 158 ls []) := fun hy ls hl => by
              refine lv_iconst (n := 1) (v := 1) hF.1 hF.2.1 (y_dcd_ok (by decide +kernel)) (by decide) ?_
              refine lv_goto (off := 4) (tgt := 163) hF.1 hF.2.1 (y_dcd_ok (by decide +kernel)) (by decide) ?_
              refine lv_istore (nL := 11) (i := 10) hF.1 hF.2.1 (y_dcd_ok (by decide +kernel)) hl (by decide) rfl (fun ls hl => ?_)
              refine at165 i9 1 ?_ ls hl
              rcases h9 with ⟨e9, hn⟩ | ⟨e9, b, b1, b2, b3, b4⟩
              · rw [hn, e9]
                exact ⟨fun z => absurd rfl z.1, fun z => by cases z⟩
              · rw [e9, show jca X (jtb X fr wh m0) to (m0 + 1) q = some ⟨X.ar q, m0 + 1, b.1, b.2⟩ from by unfold jca; rw [b1]; exact if_pos b2]
                refine ⟨fun _ => ?_, fun _ => ⟨by decide, by decide⟩⟩
                rw [Option.toList_some, List.any_cons, List.any_nil, Bool.or_false]
                refine decide_eq_true ?_
                have h5 := hy b b1 b2 b3 b4
                show (X.ar q ≤ x.a ∧ m0 + 1 ≤ x.m ∧ b.1 ≤ x.f) ∧ (¬ (x.a ≤ X.ar q ∧ x.m ≤ m0 + 1 ∧ x.f ≤ b.1) ∨ b.2 < x.c)
                omega
            have no : (∀ b : jP, jtb X fr wh m0 q = some b → X.st q = to → X.ar q ≤ x.a → b.1 ≤ x.f → ¬ (m0 + 1 < x.m ∨ X.ar q < x.a ∨ b.1 < x.f ∨ b.2 < x.c)) → ∀ ls : Array Slot, lv_has ls 11 [(9, .int i9), (8, .int (nI (96 * (m0 + 1) + q))), (7, .int (nI q)), (6, .int (nI (m0 + 1))), (5, .int (if β = true then 1 else 0)), (4, .int (nI (96 * x.m + st))), (0, .ref (ad 114)), (1, .int (nI to)), (2, .int (nI x.m)), (3, .int (nI st))] → W p l e (y_rm xBea) s m [Value.ref (ad 114), .int (nI to), .int (nI x.m), .int (nI st)].toArray below meth c s.heap [] 0 0 Q (F0 m 162 ls []) := fun hy ls hl => by
              refine lv_iconst (n := 0) (v := 0) hF.1 hF.2.1 (y_dcd_ok (by decide +kernel)) (by decide) ?_
              refine lv_istore (nL := 11) (i := 10) hF.1 hF.2.1 (y_dcd_ok (by decide +kernel)) hl (by decide) rfl (fun ls hl => ?_)
              refine at165 i9 0 ?_ ls hl
              rcases h9 with ⟨e9, hn⟩ | ⟨e9, b, b1, b2, b3, b4⟩
              · rw [hn]
                exact ⟨fun z => absurd rfl z.2, fun z => by cases z⟩
              · rw [show jca X (jtb X fr wh m0) to (m0 + 1) q = some ⟨X.ar q, m0 + 1, b.1, b.2⟩ from by unfold jca; rw [b1]; exact if_pos b2]
                refine ⟨fun z => absurd rfl z.2, fun z => ?_⟩
                rw [Option.toList_some, List.any_cons, List.any_nil, Bool.or_false] at z
                have z : (X.ar q ≤ x.a ∧ m0 + 1 ≤ x.m ∧ b.1 ≤ x.f) ∧ (¬ (x.a ≤ X.ar q ∧ x.m ≤ m0 + 1 ∧ x.f ≤ b.1) ∨ b.2 < x.c) := of_decide_eq_true z
                have h5 := hy b b1 b2 b3 b4
                omega
            have ent : ∀ b : jP, jtb X fr wh m0 q = some b → V 201 (96 * (m0 + 1) + q) = nI b.1 ∧ L 202 (96 * (m0 + 1) + q) = nL b.2 ∧ b.1 < 10000 ∧ b.2 < 2 ^ 60 := fun b hb => by
              rw [hb] at hBq
              exact hBq
            refine lv_istore (nL := 11) (i := 9) hF.1 hF.2.1 (y_dcd_ok (by decide +kernel)) hl (by decide) rfl (fun ls hl => ?_)
            refine lv_iload (i := 6) hF.1 hF.2.1 (y_dcd_ok (by decide +kernel)) (lv_at hl 3 rfl) ?_
            refine lv_iload_n (k := 2) hF.1 hF.2.1 (y_dcd_ok (by decide +kernel)) rfl (lv_at hl 8 rfl) ?_
            refine lv_icmp_lt (off := 54) (tgt := 158) hF.1 hF.2.1 (y_dcd_ok (by decide +kernel)) (by decide) (fun hq => ?_) (fun hq => ?_)
            · have h5 := (dni_ltb (by omega) (by omega)).mp hq
              exact yes (fun _ _ _ _ _ => Or.inl h5) ls hl
            have n1 : ¬ m0 + 1 < x.m := fun z => hq ((dni_ltb (by omega) (by omega)).mpr z)
            clear hq
            refine lv_aload_n (k := 0) hF.1 hF.2.1 (y_dcd_ok (by decide +kernel)) rfl (lv_at hl 6 rfl) ?_
            refine ggo (n := 8227) (index := 265) hF hs hc 114 (by decide) rfl 117 (by decide) (by decide +kernel) hv.h117 (by decide +kernel) ?_
            refine lv_iload (i := 7) hF.1 hF.2.1 (y_dcd_ok (by decide +kernel)) (lv_at hl 2 rfl) ?_
            refine gald hF hs hT hc 199 96 (by decide) (by decide) hq96 (by decide +kernel) ?_
            rw [t2.1]
            refine lv_aload_n (k := 0) hF.1 hF.2.1 (y_dcd_ok (by decide +kernel)) rfl (lv_at hl 6 rfl) ?_
            refine ggo (n := 8227) (index := 265) hF hs hc 114 (by decide) rfl 117 (by decide) (by decide +kernel) hv.h117 (by decide +kernel) ?_
            refine lv_iload_n (k := 3) hF.1 hF.2.1 (y_dcd_ok (by decide +kernel)) rfl (lv_at hl 9 rfl) ?_
            refine gald hF hs hT hc 199 96 (by decide) (by decide) hst (by decide +kernel) ?_
            rw [har]
            refine lv_icmp_lt (off := 38) (tgt := 158) hF.1 hF.2.1 (y_dcd_ok (by decide +kernel)) (by decide) (fun hq => ?_) (fun hq => ?_)
            · have h5 := (dni_ltb (by omega) (by omega)).mp hq
              exact yes (fun _ _ _ _ _ => Or.inr (Or.inl h5)) ls hl
            have n2 : ¬ X.ar q < x.a := fun z => hq ((dni_ltb (by omega) (by omega)).mpr z)
            clear hq
            refine lv_aload_n (k := 0) hF.1 hF.2.1 (y_dcd_ok (by decide +kernel)) rfl (lv_at hl 6 rfl) ?_
            refine ggo (n := 8229) (index := 271) hF hs hc 114 (by decide) rfl 119 (by decide) (by decide +kernel) hv.h119 (by decide +kernel) ?_
            refine lv_iload (i := 8) hF.1 hF.2.1 (y_dcd_ok (by decide +kernel)) (lv_at hl 1 rfl) ?_
            refine gald hF hs hT hc 201 480 (by decide) (by decide) hyi (by decide +kernel) ?_
            refine lv_aload_n (k := 0) hF.1 hF.2.1 (y_dcd_ok (by decide +kernel)) rfl (lv_at hl 6 rfl) ?_
            refine ggo (n := 8229) (index := 271) hF hs hc 114 (by decide) rfl 119 (by decide) (by decide +kernel) hv.h119 (by decide +kernel) ?_
            refine lv_iload (i := 4) hF.1 hF.2.1 (y_dcd_ok (by decide +kernel)) (lv_at hl 5 rfl) ?_
            refine gald hF hs hT hc 201 480 (by decide) (by decide) hxi (by decide +kernel) ?_
            rw [hf]
            refine lv_icmp_lt (off := 21) (tgt := 158) hF.1 hF.2.1 (y_dcd_ok (by decide +kernel)) (by decide) (fun hq => ?_) (fun hq => ?_)
            · refine yes (fun b hb _ _ _ => ?_) ls hl
              obtain ⟨k1, k2, k3, k4⟩ := ent b hb
              rw [k1] at hq
              exact Or.inr (Or.inr (Or.inl ((dni_ltb (by omega) (by omega)).mp hq)))
            have n3 : ∀ b : jP, jtb X fr wh m0 q = some b → ¬ b.1 < x.f := fun b hb z => by
              obtain ⟨k1, k2, k3, k4⟩ := ent b hb
              rw [k1] at hq
              exact hq ((dni_ltb (by omega) (by omega)).mpr z)
            clear hq
            refine lv_aload_n (k := 0) hF.1 hF.2.1 (y_dcd_ok (by decide +kernel)) rfl (lv_at hl 6 rfl) ?_
            refine ggo (n := 8230) (index := 274) hF hs hc 114 (by decide) rfl 120 (by decide) (by decide +kernel) hv.h120 (by decide +kernel) ?_
            refine lv_iload (i := 8) hF.1 hF.2.1 (y_dcd_ok (by decide +kernel)) (lv_at hl 1 rfl) ?_
            refine glald hF hs hT hc 202 480 (by decide) (by decide) hyi (by decide +kernel) ?_
            refine lv_aload_n (k := 0) hF.1 hF.2.1 (y_dcd_ok (by decide +kernel)) rfl (lv_at hl 6 rfl) ?_
            refine ggo (n := 8230) (index := 274) hF hs hc 114 (by decide) rfl 120 (by decide) (by decide +kernel) hv.h120 (by decide +kernel) ?_
            refine lv_iload (i := 4) hF.1 hF.2.1 (y_dcd_ok (by decide +kernel)) (lv_at hl 5 rfl) ?_
            refine glald hF hs hT hc 202 480 (by decide) (by decide) hxi (by decide +kernel) ?_
            rw [hcc]
            refine W.lcmp hF.1 hF.2.1 (y_dcd_ok (by decide +kernel)) ?_
            refine lv_if_ge (off := 7) (tgt := 162) hF.1 hF.2.1 (y_dcd_ok (by decide +kernel)) (by decide) (fun hq => ?_) (fun hq => ?_)
            · refine no (fun b hb h2 h3 h4 z => ?_) ls hl
              obtain ⟨k1, k2, k3, k4⟩ := ent b hb
              rw [k2] at hq
              have := n3 b hb
              have h5 : b.2 < x.c := by omega
              have h6 := Int32.lt_iff_toInt_lt.mp ((lg_cmp_nL (i := b.2) (j := x.c) (by omega) (by omega)).1.mpr h5)
              have h7 := Int32.le_iff_toInt_le.mp hq
              omega
            · refine yes (fun b hb _ _ _ => ?_) ls hl
              obtain ⟨k1, k2, k3, k4⟩ := ent b hb
              rw [k2] at hq
              exact Or.inr (Or.inr (Or.inr ((lg_cmp_nL (i := b.2) (j := x.c) (by omega) (by omega)).1.mp (Int32.not_le.mp hq))))
          -- the first flag
          have not9 : (jca X (jtb X fr wh m0) to (m0 + 1) q).toList.any (fun y => decide (jdm y x)) = false → ∀ ls : Array Slot, lv_has ls 11 [(8, .int (nI (96 * (m0 + 1) + q))), (7, .int (nI q)), (6, .int (nI (m0 + 1))), (5, .int (if β = true then 1 else 0)), (4, .int (nI (96 * x.m + st))), (0, .ref (ad 114)), (1, .int (nI to)), (2, .int (nI x.m)), (3, .int (nI st))] → W p l e (y_rm xBea) s m [Value.ref (ad 114), .int (nI to), .int (nI x.m), .int (nI st)].toArray below meth c s.heap [] 0 0 Q (F0 m 98 ls []) := fun hn ls hl => by
            refine lv_iconst (n := 0) (v := 0) hF.1 hF.2.1 (y_dcd_ok (by decide +kernel)) (by decide) ?_
            exact at99 0 (Or.inl ⟨rfl, hn⟩) ls hl
          refine lv_aload_n (k := 0) hF.1 hF.2.1 (y_dcd_ok (by decide +kernel)) rfl (lv_at hl 5 rfl) ?_
          refine ggo (n := 8229) (index := 271) hF hs hc 114 (by decide) rfl 119 (by decide) (by decide +kernel) hv.h119 (by decide +kernel) ?_
          refine lv_iload (i := 8) hF.1 hF.2.1 (y_dcd_ok (by decide +kernel)) (lv_at hl 0 rfl) ?_
          refine gald hF hs hT hc 201 480 (by decide) (by decide) hyi (by decide +kernel) ?_
          refine lv_if_lt (off := 51) (tgt := 98) hF.1 hF.2.1 (y_dcd_ok (by decide +kernel)) (by decide) (fun hq => ?_) (fun hq => ?_)
          · refine not9 ?_ ls hl
            cases hb : jtb X fr wh m0 q with
            | none => unfold jca; rw [hb]; rfl
            | some b =>
              rw [hb] at hBq
              rw [hBq.1] at hq
              have := (dni_ltb (j := 0) (by have := hBq.2.2.1; omega) (by decide)).mp hq
              omega
          obtain ⟨b, hb⟩ : ∃ b, jtb X fr wh m0 q = some b := by
            cases hb : jtb X fr wh m0 q with
            | none =>
              rw [hb] at hBq
              rw [show V 201 (96 * (m0 + 1) + q) = -1 from hBq] at hq
              exact absurd (by decide) hq
            | some b => exact ⟨b, rfl⟩
          clear hq
          obtain ⟨k1, k2, k3, k4⟩ : V 201 (96 * (m0 + 1) + q) = nI b.1 ∧ L 202 (96 * (m0 + 1) + q) = nL b.2 ∧ b.1 < 10000 ∧ b.2 < 2 ^ 60 := by
            rw [hb] at hBq
            exact hBq
          have hjn : X.st q ≠ to → (jca X (jtb X fr wh m0) to (m0 + 1) q).toList.any (fun y => decide (jdm y x)) = false := fun hne => by
            rw [show jca X (jtb X fr wh m0) to (m0 + 1) q = none from by unfold jca; rw [hb]; exact if_neg hne]
            rfl
          have hjs : X.st q = to → ¬ (X.ar q ≤ x.a ∧ b.1 ≤ x.f) → (jca X (jtb X fr wh m0) to (m0 + 1) q).toList.any (fun y => decide (jdm y x)) = false := fun he hne => by
            rw [show jca X (jtb X fr wh m0) to (m0 + 1) q = some ⟨X.ar q, m0 + 1, b.1, b.2⟩ from by unfold jca; rw [hb]; exact if_pos he, Option.toList_some, List.any_cons, List.any_nil, Bool.or_false]
            refine decide_eq_false (fun z => hne ?_)
            exact ⟨z.1.1, z.1.2.2⟩
          refine lv_aload_n (k := 0) hF.1 hF.2.1 (y_dcd_ok (by decide +kernel)) rfl (lv_at hl 5 rfl) ?_
          refine ggo (n := 8226) (index := 262) hF hs hc 114 (by decide) rfl 116 (by decide) (by decide +kernel) hv.h116 (by decide +kernel) ?_
          refine lv_iload (i := 7) hF.1 hF.2.1 (y_dcd_ok (by decide +kernel)) (lv_at hl 1 rfl) ?_
          refine gald hF hs hT hc 198 96 (by decide) (by decide) hq96 (by decide +kernel) ?_
          rw [t1.1]
          refine lv_iload_n (k := 1) hF.1 hF.2.1 (y_dcd_ok (by decide +kernel)) rfl (lv_at hl 6 rfl) ?_
          refine lv_icmp_ne (off := 40) (tgt := 98) hF.1 hF.2.1 (y_dcd_ok (by decide +kernel)) (by decide) (fun hq => ?_) (fun hq => ?_)
          · exact not9 (hjn (fun z => hq (by rw [z]))) ls hl
          have hse := dni_injb (by omega) (by omega) hq
          clear hq
          refine lv_aload_n (k := 0) hF.1 hF.2.1 (y_dcd_ok (by decide +kernel)) rfl (lv_at hl 5 rfl) ?_
          refine ggo (n := 8227) (index := 265) hF hs hc 114 (by decide) rfl 117 (by decide) (by decide +kernel) hv.h117 (by decide +kernel) ?_
          refine lv_iload (i := 7) hF.1 hF.2.1 (y_dcd_ok (by decide +kernel)) (lv_at hl 1 rfl) ?_
          refine gald hF hs hT hc 199 96 (by decide) (by decide) hq96 (by decide +kernel) ?_
          rw [t2.1]
          refine lv_aload_n (k := 0) hF.1 hF.2.1 (y_dcd_ok (by decide +kernel)) rfl (lv_at hl 5 rfl) ?_
          refine ggo (n := 8227) (index := 265) hF hs hc 114 (by decide) rfl 117 (by decide) (by decide +kernel) hv.h117 (by decide +kernel) ?_
          refine lv_iload_n (k := 3) hF.1 hF.2.1 (y_dcd_ok (by decide +kernel)) rfl (lv_at hl 8 rfl) ?_
          refine gald hF hs hT hc 199 96 (by decide) (by decide) hst (by decide +kernel) ?_
          rw [har]
          refine lv_icmp_gt (off := 24) (tgt := 98) hF.1 hF.2.1 (y_dcd_ok (by decide +kernel)) (by decide) (fun hq => ?_) (fun hq => ?_)
          · have h5 := (dni_ltb (by omega) (by omega)).mp hq
            exact not9 (hjs hse (fun z => by omega)) ls hl
          have h5 : ¬ x.a < X.ar q := fun z => hq ((dni_ltb (by omega) (by omega)).mpr z)
          clear hq
          refine lv_aload_n (k := 0) hF.1 hF.2.1 (y_dcd_ok (by decide +kernel)) rfl (lv_at hl 5 rfl) ?_
          refine ggo (n := 8229) (index := 271) hF hs hc 114 (by decide) rfl 119 (by decide) (by decide +kernel) hv.h119 (by decide +kernel) ?_
          refine lv_iload (i := 8) hF.1 hF.2.1 (y_dcd_ok (by decide +kernel)) (lv_at hl 0 rfl) ?_
          refine gald hF hs hT hc 201 480 (by decide) (by decide) hyi (by decide +kernel) ?_
          rw [k1]
          refine lv_aload_n (k := 0) hF.1 hF.2.1 (y_dcd_ok (by decide +kernel)) rfl (lv_at hl 5 rfl) ?_
          refine ggo (n := 8229) (index := 271) hF hs hc 114 (by decide) rfl 119 (by decide) (by decide +kernel) hv.h119 (by decide +kernel) ?_
          refine lv_iload (i := 4) hF.1 hF.2.1 (y_dcd_ok (by decide +kernel)) (lv_at hl 4 rfl) ?_
          refine gald hF hs hT hc 201 480 (by decide) (by decide) hxi (by decide +kernel) ?_
          rw [hf]
          refine lv_icmp_gt (off := 7) (tgt := 98) hF.1 hF.2.1 (y_dcd_ok (by decide +kernel)) (by decide) (fun hq => ?_) (fun hq => ?_)
          · have h6 := (dni_ltb (by omega) (by omega)).mp hq
            exact not9 (hjs hse (fun z => by omega)) ls hl
          have h6 : ¬ x.f < b.1 := fun z => hq ((dni_ltb (by omega) (by omega)).mpr z)
          clear hq
          refine lv_iconst (n := 1) (v := 1) hF.1 hF.2.1 (y_dcd_ok (by decide +kernel)) (by decide) ?_
          refine lv_goto (off := 4) (tgt := 99) hF.1 hF.2.1 (y_dcd_ok (by decide +kernel)) (by decide) ?_
          exact at99 1 (Or.inr ⟨rfl, b, hb, hse, by omega, by omega⟩) ls hl
      refine lv_iconst (n := 0) (v := 0) hF.1 hF.2.1 (y_dcd_ok (by decide +kernel)) (by decide) ?_
      refine lv_istore (nL := 11) (i := 7) hF.1 hF.2.1 (y_dcd_ok (by decide +kernel)) hl (by decide) rfl (fun ls hl => ?_)
      exact loopP 96 0 (by omega) β ls hfin hl
  refine lv_bipush (n := 96) (v := 96) hF.1 hF.2.1 (y_dcd_ok (by decide +kernel)) (by decide) ?_
  refine lv_iload_n (k := 2) hF.1 hF.2.1 (y_dcd_ok (by decide +kernel)) rfl (lv_at hl 2 rfl) ?_
  refine lv_imul hF.1 hF.2.1 (y_dcd_ok (by decide +kernel)) ?_
  refine lv_iload_n (k := 3) hF.1 hF.2.1 (y_dcd_ok (by decide +kernel)) rfl (lv_at hl 3 rfl) ?_
  refine lv_iadd hF.1 hF.2.1 (y_dcd_ok (by decide +kernel)) ?_
  rw [kpl (by omega) (by omega)]
  refine lv_istore (nL := 11) (i := 4) hF.1 hF.2.1 (y_dcd_ok (by decide +kernel)) hl (by decide) rfl (fun ls hl => ?_)
  refine lv_iconst (n := 0) (v := 0) hF.1 hF.2.1 (y_dcd_ok (by decide +kernel)) (by decide) ?_
  refine lv_istore (nL := 11) (i := 5) hF.1 hF.2.1 (y_dcd_ok (by decide +kernel)) hl (by decide) rfl (fun ls hl => ?_)
  refine lv_iconst (n := 1) (v := 1) hF.1 hF.2.1 (y_dcd_ok (by decide +kernel)) (by decide) ?_
  refine lv_istore (nL := 11) (i := 6) hF.1 hF.2.1 (y_dcd_ok (by decide +kernel)) hl (by decide) rfl (fun ls hl => ?_)
  exact loopM x.m 0 (by omega) false ls (by rw [Bool.false_or]) (lv_sub hl [0, 1, 2, 3, 4, 5, 6] rfl)
end ZD
