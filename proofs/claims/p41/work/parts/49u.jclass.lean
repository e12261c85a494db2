-- journeys of the class: findAll
/-- one leg less -/
def jpv (X : jT) (fr wh : Nat) : Nat → Option jB
  | 0 => none
  | m + 1 => some (jtb X fr wh m)
theorem jtb_pv (X : jT) (fr wh m : Nat) : jtb X fr wh m = jlr X fr wh (jpv X fr wh m) 1 0 (fun _ => none) := by
  cases m with
  | zero => rfl
  | succ m => rfl
theorem jtb_b {X : jT} (hX : jX X) (fr wh : Nat) {m p : Nat} (hm : m ≤ 2) {x : jP} (h : jtb X fr wh m p = some x) : x.1 < 5000 ∧ x.2 < 2 ^ 40 := by
  obtain ⟨_, ⟨z, z1, z2⟩, z3⟩ := jtb_ok hX fr wh m p x h
  have h1 : 1024 ^ (m + 1) ≤ 1024 ^ 4 := Nat.pow_le_pow_right (by decide) (by omega)
  have e : 1024 ^ 4 = 2 ^ 40 := by decide
  omega
/-- which rows are which at each number of legs -/
def jUm (u v m : Nat) : Prop := (u = 98 ∧ v = 100 ∧ m % 2 = 0) ∨ (u = 100 ∧ v = 98 ∧ m % 2 = 1)
/-- the timetable's rows stay -/
def jtt (V V' : Nat → Nat → Int32) : Prop := ∀ q, 80 ≤ q → q ≤ 86 → V' q = V q
theorem jVc_tt {X : jT} {V V1 : Nat → Nat → Int32} (h : jtt V V1) (hX : jVc X V) : jVc X V1 := by
  unfold jVc
  rw [h 83 (by decide) (by decide), h 84 (by decide) (by decide), h 85 (by decide) (by decide), h 86 (by decide) (by decide), h 80 (by decide) (by decide), h 81 (by decide) (by decide)]
  exact hX
section YE
variable {l : Launch} {D : va_G} {b : Nat → Nat} {cw : va_W} {tys : List (ClassId × FieldType)} {sz : Nat} {ad : Nat → Nat} {cI : Nat → ClassId} {V : Nat → Nat → Int32} {L : Nat → Nat → Int64}
set_option maxHeartbeats 8000000 in
theorem jM_fiA {op ho he : Int32} {X : jT} (hX : jVc X V) (hzn : jX X) (hT : xgT jI jJ cI tys) (hc : jW ad cI op 98 100 (nI X.n) ho he V L cw) {fr to wh : Nat} (hfr : fr < 8) (hto : to < 8) (hwh : wh ≤ 10000) : Met l (y_y xFiA) (y_ws ztb xFiA) (y_rm xFiA) (y_Pc znw b zcls D cw tys sz [.ref (ad 93), .int (nI fr), .int (nI to), .int (nI wh)]) (y_Q zcls D (fun cw' tys' rv => tys' = tys ∧ ∃ K V' L', rv = some (.int (nI K.length)) ∧ jW ad cI (nI K.length) 98 100 (nI X.n) ho he V' L' cw' ∧ jro K V' L' ∧ jop (jcm X fr wh to 0) K) cw sz) 0 0 (va_A cw sz) := by
  refine xMet (tb := ytb yw00) (mr := xFiA) yo_yr20 (fun x hx => by cases hx) (Nat.le_of_ble_eq_true rfl) ?_
  intro p e s m below meth c Q ls hsz hF hs hl kv ki
  have hl : lv_has ls 7 [(0, .ref (ad 93)), (1, .int (nI fr)), (2, .int (nI to)), (3, .int (nI wh))] := hl
  generalize va_A cw sz = A at *
  have hn := hX.n
  have hXX := jVc_X hX hzn
  have hFm : ∀ x ∈ jcm X fr wh to 0, jfm x := fun x hx => (jcm_fm hXX fr wh to x ((jcm_mem hXX fr wh to x).mp hx)).1
  have loopM : ∀ (d m0 : Nat), m0 + d = 4 → ∀ (u v : Nat), jUm u v m0 → ∀ (H : Heap) (locs : List Loc) (cw : va_W) (V1 : Nat → Nat → Int32) (L1 : Nat → Nat → Int64) (K l1 : List jO) (ls : Array Slot), xs D s A H locs cw tys → jW ad cI (nI K.length) u v (nI X.n) ho he V1 L1 cw → jtt V V1 → (∀ P, jpv X fr wh m0 = some P → jtab P (V1 u) (L1 (u + 1))) → jro K V1 L1 → jop l1 K → l1 ++ jcm X fr wh to m0 = jcm X fr wh to 0 → lv_has ls 7 [(4, .int (nI (m0 + 1))), (0, .ref (ad 93)), (1, .int (nI fr)), (2, .int (nI to)), (3, .int (nI wh))] → W p l e (y_rm xFiA) s m [Value.ref (ad 93), .int (nI fr), .int (nI to), .int (nI wh)].toArray below meth c H locs 0 0 Q (F0 m 8 ls []) := by
    intro d
    induction d with
    | zero =>
      intro m0 hmd u v hu H locs cw V1 L1 K l1 ls hs hc htt hP hro hop hll hl
      have e4 : m0 = 4 := by omega
      subst e4
      obtain ⟨rfl, rfl⟩ : u = 98 ∧ v = 100 := by rcases hu with ⟨a, b, _⟩ | ⟨a, b, q⟩ <;> omega
      refine lv_iload (i := 4) hF.1 hF.2.1 (y_dcd_ok (by decide +kernel)) (lv_at hl 0 rfl) ?_
      refine lv_iconst (n := 4) (v := 4) hF.1 hF.2.1 (y_dcd_ok (by decide +kernel)) (by decide) ?_
      refine lv_icmp_gt (off := 94) (tgt := 105) hF.1 hF.2.1 (y_dcd_ok (by decide +kernel)) (by decide) (fun hq => ?_) (fun hq => ?_)
      · show W _ _ _ _ _ _ _ _ _ _ _ _ _ _ _ (F0 m 105 ls [])
        refine lv_aload_n (k := 0) hF.1 hF.2.1 (y_dcd_ok (by decide +kernel)) rfl (lv_at hl 1 rfl) ?_
        refine ggo (n := 3005) (index := 9) hF hs hc 93 (by decide) rfl 1 (by decide) (by decide +kernel) rfl (by decide +kernel) ?_
        rw [jcm_4, List.append_nil] at hll
        exact ki _ _ cw tys ls 109 _ .int rfl rfl (by decide +kernel) hs ⟨rfl, K, V1, L1, rfl, hc, hro, by rw [← hll]; exact hop⟩
      · exact absurd (by decide) hq
    | succ d ih =>
      intro m0 hmd u v hu H locs cw V1 L1 K l1 ls hs hc htt hP hro hop hll hl
      have hm4 : m0 < 4 := by omega
      have huv : jUV u v := hu.elim (fun h => Or.inl ⟨h.1, h.2.1⟩) (fun h => Or.inr ⟨h.1, h.2.1⟩)
      have huv' : jUV v u := huv.elim (fun h => Or.inr ⟨h.2, h.1⟩) (fun h => Or.inl ⟨h.2, h.1⟩)
      rw [jcm_s X fr wh to hm4] at hll
      refine lv_iload (i := 4) hF.1 hF.2.1 (y_dcd_ok (by decide +kernel)) (lv_at hl 0 rfl) ?_
      refine lv_iconst (n := 4) (v := 4) hF.1 hF.2.1 (y_dcd_ok (by decide +kernel)) (by decide) ?_
      refine lv_icmp_gt (off := 94) (tgt := 105) hF.1 hF.2.1 (y_dcd_ok (by decide +kernel)) (by decide) (fun hq => ?_) (fun hq => ?_)
      · exact absurd ((dni_ltb (i := 4) (by decide) (by omega)).mp hq) (by omega)
      clear hq
      refine lv_aload_n (k := 0) hF.1 hF.2.1 (y_dcd_ok (by decide +kernel)) rfl (lv_at hl 1 rfl) ?_
      refine xcallV (As := []) (rest := []) (n := 7158) (j := 45) hF hs hl.1 (hc.hO 93 (by decide)) (cm := xBeL) yo_yr18 rfl (by decide) (by decide +kernel) (show _ = some 0 from by decide +kernel) (by decide +kernel) ⟨by decide, by decide⟩ ⟨rfl, rfl⟩ (Nat.le_of_ble_eq_true rfl) ⟨Nat.zero_le _, Nat.zero_le _⟩ (jM_beL huv hT hc) (fun H1 locs1 cw1 tys1 rv hs hX1 => ?_)
      obtain ⟨e1, e2, V2, c2, n2, b2⟩ := hX1
      subst e1
      rw [e2] at hs
      have hv8 : ¬ (80 ≤ v ∧ v ≤ 96) ∧ v ≠ u ∧ v + 1 ≠ 97 ∧ u + 1 ≠ v + 1 ∧ ¬ (94 ≤ u ∧ u ≤ 96) ∧ u + 1 ≠ 97 := by rcases huv with ⟨a, b⟩ | ⟨a, b⟩ <;> omega
      have htt2 : jtt V V2 := fun q h1 h2 => by rw [n2 q (by omega)]; exact htt q h1 h2
      have hro2 : jro K V2 L1 := fun k x hk => by
        obtain ⟨⟨a1, a2, a3, a4⟩, a5⟩ := hro k x hk
        exact ⟨⟨by rw [n2 94 (by omega)]; exact a1, by rw [n2 95 (by omega)]; exact a2, by rw [n2 96 (by omega)]; exact a3, a4⟩, a5⟩
      have hP2 : ∀ P, jpv X fr wh m0 = some P → jtab P (V2 u) (L1 (u + 1)) := fun P h => by rw [n2 u (fun z => hv8.2.1 z.symm)]; exact hP P h
      show W _ _ _ _ _ _ _ _ _ _ _ _ _ _ _ (F0 m 18 ls [])
      -- the runs
      have loopR : ∀ (dr r : Nat), r + dr = X.n → ∀ (H : Heap) (locs : List Loc) (cw : va_W) (V3 : Nat → Nat → Int32) (L3 : Nat → Nat → Int64) (B : jB) (ls : Array Slot), xs D s A H locs cw tys → jW ad cI (nI K.length) v u (nI X.n) ho he V3 L3 cw → (∀ q, q ≠ v → V3 q = V2 q) → (∀ q, q ≠ v + 1 → L3 q = L1 q) → jtab B (V3 v) (L3 (v + 1)) → jlr X fr wh (jpv X fr wh m0) 1 r B = jtb X fr wh m0 → lv_has ls 7 [(5, .int (nI r)), (4, .int (nI (m0 + 1))), (0, .ref (ad 93)), (1, .int (nI fr)), (2, .int (nI to)), (3, .int (nI wh))] → W p l e (y_rm xFiA) s m [Value.ref (ad 93), .int (nI fr), .int (nI to), .int (nI wh)].toArray below meth c H locs 0 0 Q (F0 m 21 ls []) := by
        intro dr
        induction dr with
        | zero =>
          intro r hrd H locs cw V3 L3 B ls hs hc h3 h4 hB hfin hl
          refine lv_iload (i := 5) hF.1 hF.2.1 (y_dcd_ok (by decide +kernel)) (lv_at hl 0 rfl) ?_
          refine lv_aload_n (k := 0) hF.1 hF.2.1 (y_dcd_ok (by decide +kernel)) rfl (lv_at hl 2 rfl) ?_
          refine ggo (n := 3004) (index := 41) hF hs hc 93 (by decide) rfl 0 (by decide) (by decide +kernel) rfl (by decide +kernel) ?_
          refine ggo (n := 2180) (index := 48) hF hs hc 79 (by decide) rfl 2 (by decide) (by decide +kernel) rfl (by decide +kernel) ?_
          refine lv_icmp_ge (off := 62) (tgt := 92) hF.1 hF.2.1 (y_dcd_ok (by decide +kernel)) (by decide) (fun hq => ?_) (fun hq => ?_)
          · rw [jlr_n X fr wh _ 1 (by omega)] at hfin
            have htt3 : jtt V V3 := fun q h1 h2 => by rw [h3 q (by omega)]; exact htt2 q h1 h2
            have hro3 : jro K V3 L3 := fun k x hk => by
              obtain ⟨⟨a1, a2, a3, a4⟩, a5⟩ := hro2 k x hk
              exact ⟨⟨by rw [h3 94 (by omega)]; exact a1, by rw [h3 95 (by omega)]; exact a2, by rw [h3 96 (by omega)]; exact a3, by rw [h4 97 (by omega)]; exact a4⟩, a5⟩
            rw [hfin] at hB
            show W _ _ _ _ _ _ _ _ _ _ _ _ _ _ _ (F0 m 92 ls [])
            refine lv_aload_n (k := 0) hF.1 hF.2.1 (y_dcd_ok (by decide +kernel)) rfl (lv_at hl 2 rfl) ?_
            refine lv_iload_n (k := 2) hF.1 hF.2.1 (y_dcd_ok (by decide +kernel)) rfl (lv_at hl 4 rfl) ?_
            refine lv_iload (i := 4) hF.1 hF.2.1 (y_dcd_ok (by decide +kernel)) (lv_at hl 1 rfl) ?_
            refine xcallV (As := [.int _, .int _]) (rest := []) (n := 7184) (j := 62) hF hs hl.1 (hc.hO 93 (by decide)) (cm := xHar) yo_yr21 rfl (by decide) (by decide +kernel) (show _ = some 2 from by decide +kernel) (by decide +kernel) ⟨by decide, by decide⟩ ⟨rfl, rfl⟩ (Nat.le_of_ble_eq_true rfl) ⟨Nat.zero_le _, Nat.zero_le _⟩ (jM_har huv' (jVc_tt htt3 hX) hT hc hB hto (m0 := m0 + 1) (by omega) (jcm_pw hXX fr wh to) hFm (tl := jcm X fr wh to (m0 + 1)) hll hop hro3) (fun H4 locs4 cw4 tys4 rv hs hX4 => ?_)
            obtain ⟨e1, e2', K4, V4, L4, c4, n4, o4, p4⟩ := hX4
            subst e1
            rw [e2'] at hs
            show W _ _ _ _ _ _ _ _ _ _ _ _ _ _ _ (F0 m 99 ls [])
            refine lv_iinc (nL := 7) (i := 4) (n := 1) (k := 1) (v := nI (m0 + 1 + 1)) hF.1 hF.2.1 (y_dcd_ok (by decide +kernel)) hl rfl (dni_add (by omega)) (by decide) rfl (fun ls hl => ?_)
            refine lv_goto (off := (-94)) (tgt := 8) hF.1 hF.2.1 (y_dcd_ok (by decide +kernel)) (by decide) ?_
            refine ih (m0 + 1) (by omega) v u ?_ _ _ cw4 V4 L4 K4 _ ls hs c4 (fun q h1 h2 => by rw [n4.1 q (by omega)]; exact htt3 q h1 h2) (fun P hP' => ?_) o4 p4 (by rw [← hll, List.append_assoc]) (lv_sub hl [0, 2, 3, 4, 5] rfl)
            · rcases hu with ⟨a, b, q⟩ | ⟨a, b, q⟩
              · exact Or.inr ⟨b, a, by omega⟩
              · exact Or.inl ⟨b, a, by omega⟩
            · have : jtb X fr wh m0 = P := Option.some.inj hP'
              rw [← this, n4.1 v (by omega), n4.2 (v + 1) (by omega)]
              exact hB
          · exact absurd ((dni_le (by omega) (by omega)).mpr (by omega)) hq
        | succ dr ihr =>
          intro r hrd H locs cw V3 L3 B ls hs hc h3 h4 hB hfin hl
          have hr12 : r < 12 := by omega
          refine lv_iload (i := 5) hF.1 hF.2.1 (y_dcd_ok (by decide +kernel)) (lv_at hl 0 rfl) ?_
          refine lv_aload_n (k := 0) hF.1 hF.2.1 (y_dcd_ok (by decide +kernel)) rfl (lv_at hl 2 rfl) ?_
          refine ggo (n := 3004) (index := 41) hF hs hc 93 (by decide) rfl 0 (by decide) (by decide +kernel) rfl (by decide +kernel) ?_
          refine ggo (n := 2180) (index := 48) hF hs hc 79 (by decide) rfl 2 (by decide) (by decide +kernel) rfl (by decide +kernel) ?_
          refine lv_icmp_ge (off := 62) (tgt := 92) hF.1 hF.2.1 (y_dcd_ok (by decide +kernel)) (by decide) (fun hq => ?_) (fun hq => ?_)
          · exact absurd ((dni_le (by omega) (by omega)).mp hq) (by omega)
          clear hq
          rw [jlr_s X fr wh _ 1 (show r < X.n by omega)] at hfin
          have hSr := hX.S r hr12
          have loopI : ∀ (di i : Nat), i + di = X.S r - 1 → ∀ (H : Heap) (locs : List Loc) (cw : va_W) (V3 : Nat → Nat → Int32) (L3 : Nat → Nat → Int64) (B : jB) (ls : Array Slot), xs D s A H locs cw tys → jW ad cI (nI K.length) v u (nI X.n) ho he V3 L3 cw → (∀ q, q ≠ v → V3 q = V2 q) → (∀ q, q ≠ v + 1 → L3 q = L1 q) → jtab B (V3 v) (L3 (v + 1)) → jlr X fr wh (jpv X fr wh m0) 1 (r + 1) (jli X fr wh (jpv X fr wh m0) 1 r i B) = jtb X fr wh m0 → lv_has ls 7 [(6, .int (nI i)), (5, .int (nI r)), (4, .int (nI (m0 + 1))), (0, .ref (ad 93)), (1, .int (nI fr)), (2, .int (nI to)), (3, .int (nI wh))] → W p l e (y_rm xFiA) s m [Value.ref (ad 93), .int (nI fr), .int (nI to), .int (nI wh)].toArray below meth c H locs 0 0 Q (F0 m 36 ls []) := by
            intro di
            induction di with
            | zero =>
              intro i hid H locs cw V3 L3 B ls hs hc h3 h4 hB hfin hl
              have eS : V3 83 r = nI (X.S r) := by rw [h3 83 (by omega), htt2 83 (by decide) (by decide)]; exact hSr.1
              have i1 := dni_int (k := X.S r) (by omega)
              have i2 := dni_int (k := i) (by omega)
              have i3 : (1 : Int32).toInt = 1 := by decide
              have i4 : (nI (X.S r) - 1).toInt = (X.S r : Int) - 1 := by rw [di_sub] <;> omega
              refine lv_iload (i := 6) hF.1 hF.2.1 (y_dcd_ok (by decide +kernel)) (lv_at hl 0 rfl) ?_
              refine lv_aload_n (k := 0) hF.1 hF.2.1 (y_dcd_ok (by decide +kernel)) rfl (lv_at hl 3 rfl) ?_
              refine ggo (n := 3004) (index := 41) hF hs hc 93 (by decide) rfl 0 (by decide) (by decide +kernel) rfl (by decide +kernel) ?_
              refine ggo (n := 2184) (index := 51) hF hs hc 79 (by decide) rfl 4 (by decide) (by decide +kernel) rfl (by decide +kernel) ?_
              refine lv_iload (i := 5) hF.1 hF.2.1 (y_dcd_ok (by decide +kernel)) (lv_at hl 1 rfl) ?_
              refine gald hF hs hT hc 83 12 (by decide) (by decide) hr12 (by decide +kernel) ?_
              rw [eS]
              refine lv_iconst (n := 1) (v := 1) hF.1 hF.2.1 (y_dcd_ok (by decide +kernel)) (by decide) ?_
              refine lv_isub hF.1 hF.2.1 (y_dcd_ok (by decide +kernel)) ?_
              refine lv_icmp_ge (off := 36) (tgt := 86) hF.1 hF.2.1 (y_dcd_ok (by decide +kernel)) (by decide) (fun hq => ?_) (fun hq => ?_)
              · rw [jli_n X fr wh _ 1 r (by omega)] at hfin
                refine lv_iinc (nL := 7) (i := 5) (n := 1) (k := 1) (v := nI (r + 1)) hF.1 hF.2.1 (y_dcd_ok (by decide +kernel)) hl rfl (dni_add (by omega)) (by decide) rfl (fun ls hl => ?_)
                refine lv_goto (off := (-68)) (tgt := 21) hF.1 hF.2.1 (y_dcd_ok (by decide +kernel)) (by decide) ?_
                exact ihr (r + 1) (by omega) _ _ cw V3 L3 B ls hs hc h3 h4 hB hfin (lv_sub hl [0, 2, 3, 4, 5, 6] rfl)
              · exact absurd (Int32.le_iff_toInt_le.mpr (by omega)) hq
            | succ di ihi =>
              intro i hid H locs cw V3 L3 B ls hs hc h3 h4 hB hfin hl
              have eS : V3 83 r = nI (X.S r) := by rw [h3 83 (by omega), htt2 83 (by decide) (by decide)]; exact hSr.1
              have i1 := dni_int (k := X.S r) (by omega)
              have i2 := dni_int (k := i) (by omega)
              have i3 : (1 : Int32).toInt = 1 := by decide
              have i4 : (nI (X.S r) - 1).toInt = (X.S r : Int) - 1 := by rw [di_sub] <;> omega
              have hX3 : jVc X V3 := jVc_tt (fun q h1 h2 => by rw [h3 q (by omega)]; exact htt2 q h1 h2) hX
              rw [jli_s X fr wh _ 1 r (show i < X.S r - 1 by omega)] at hfin
              refine lv_iload (i := 6) hF.1 hF.2.1 (y_dcd_ok (by decide +kernel)) (lv_at hl 0 rfl) ?_
              refine lv_aload_n (k := 0) hF.1 hF.2.1 (y_dcd_ok (by decide +kernel)) rfl (lv_at hl 3 rfl) ?_
              refine ggo (n := 3004) (index := 41) hF hs hc 93 (by decide) rfl 0 (by decide) (by decide +kernel) rfl (by decide +kernel) ?_
              refine ggo (n := 2184) (index := 51) hF hs hc 79 (by decide) rfl 4 (by decide) (by decide +kernel) rfl (by decide +kernel) ?_
              refine lv_iload (i := 5) hF.1 hF.2.1 (y_dcd_ok (by decide +kernel)) (lv_at hl 1 rfl) ?_
              refine gald hF hs hT hc 83 12 (by decide) (by decide) hr12 (by decide +kernel) ?_
              rw [eS]
              refine lv_iconst (n := 1) (v := 1) hF.1 hF.2.1 (y_dcd_ok (by decide +kernel)) (by decide) ?_
              refine lv_isub hF.1 hF.2.1 (y_dcd_ok (by decide +kernel)) ?_
              refine lv_icmp_ge (off := 36) (tgt := 86) hF.1 hF.2.1 (y_dcd_ok (by decide +kernel)) (by decide) (fun hq => ?_) (fun hq => ?_)
              · have := Int32.le_iff_toInt_le.mp hq
                omega
              clear hq
              have next : ∀ (H : Heap) (locs : List Loc) (cw : va_W) (V4 : Nat → Nat → Int32) (L4 : Nat → Nat → Int64) (ls : Array Slot), xs D s A H locs cw tys → jW ad cI (nI K.length) v u (nI X.n) ho he V4 L4 cw → (∀ q, q ≠ v → V4 q = V3 q) → (∀ q, q ≠ v + 1 → L4 q = L3 q) → jtab (jgo X fr wh (jpv X fr wh m0) r i B) (V4 v) (L4 (v + 1)) → lv_has ls 7 [(6, .int (nI i)), (5, .int (nI r)), (4, .int (nI (m0 + 1))), (0, .ref (ad 93)), (1, .int (nI fr)), (2, .int (nI to)), (3, .int (nI wh))] → W p l e (y_rm xFiA) s m [Value.ref (ad 93), .int (nI fr), .int (nI to), .int (nI wh)].toArray below meth c H locs 0 0 Q (F0 m 80 ls []) := by
                intro H locs cw V4 L4 ls hs hc h5 h6 hB4 hl
                refine lv_iinc (nL := 7) (i := 6) (n := 1) (k := 0) (v := nI (i + 1)) hF.1 hF.2.1 (y_dcd_ok (by decide +kernel)) hl rfl (dni_add (by omega)) (by decide) rfl (fun ls hl => ?_)
                refine lv_goto (off := (-47)) (tgt := 36) hF.1 hF.2.1 (y_dcd_ok (by decide +kernel)) (by decide) ?_
                exact ihi (i + 1) (by omega) _ _ cw V4 L4 _ ls hs hc (fun q hq => (h5 q hq).trans (h3 q hq)) (fun q hq => (h6 q hq).trans (h4 q hq)) hB4 hfin hl
              refine lv_iload (i := 4) hF.1 hF.2.1 (y_dcd_ok (by decide +kernel)) (lv_at hl 2 rfl) ?_
              refine lv_iconst (n := 1) (v := 1) hF.1 hF.2.1 (y_dcd_ok (by decide +kernel)) (by decide) ?_
              refine lv_icmp_ne (off := 16) (tgt := 72) hF.1 hF.2.1 (y_dcd_ok (by decide +kernel)) (by decide) (fun hq => ?_) (fun hq => ?_)
              · obtain ⟨m1, rfl⟩ : ∃ m1, m0 = m1 + 1 := by
                  cases m0 with
                  | zero => exact absurd rfl hq
                  | succ m1 => exact ⟨m1, rfl⟩
                show W _ _ _ _ _ _ _ _ _ _ _ _ _ _ _ (F0 m 72 ls [])
                refine lv_aload_n (k := 0) hF.1 hF.2.1 (y_dcd_ok (by decide +kernel)) rfl (lv_at hl 3 rfl) ?_
                refine lv_iload (i := 5) hF.1 hF.2.1 (y_dcd_ok (by decide +kernel)) (lv_at hl 1 rfl) ?_
                refine lv_iload (i := 6) hF.1 hF.2.1 (y_dcd_ok (by decide +kernel)) (lv_at hl 0 rfl) ?_
                have hPv : jtab (jtb X fr wh m1) (V3 u) (L3 (u + 1)) := by rw [h3 u (fun z => hv8.2.1 z.symm), h4 (u + 1) hv8.2.2.2.1]; exact hP2 _ rfl
                refine xcallV (As := [.int _, .int _]) (rest := []) (n := 7180) (j := 58) hF hs hl.1 (hc.hO 93 (by decide)) (cm := xChI) yo_yr19 rfl (by decide) (by decide +kernel) (show _ = some 2 from by decide +kernel) (by decide +kernel) ⟨by decide, by decide⟩ ⟨rfl, rfl⟩ (Nat.le_of_ble_eq_true rfl) ⟨Nat.zero_le _, Nat.zero_le _⟩ (jM_chI huv' hX3 hT hc (show r < X.n by omega) (show i + 1 < X.S r by omega) hB hPv (fun p x h => jtb_b hXX fr wh (by omega) h)) (fun H5 locs5 cw5 tys5 rv hs hX5 => ?_)
                obtain ⟨e1, e2', V5, L5, c5, n5, q5, b5⟩ := hX5
                subst e1
                rw [e2'] at hs
                show W _ _ _ _ _ _ _ _ _ _ _ _ _ _ _ (F0 m 80 ls [])
                exact next _ _ cw5 V5 L5 ls hs c5 n5 q5 (b5 fr wh) hl
              have em : m0 = 0 := by
                have := dni_injb (i := m0 + 1) (j := 1) (by omega) (by omega) hq
                omega
              subst em
              clear hq
              refine lv_aload_n (k := 0) hF.1 hF.2.1 (y_dcd_ok (by decide +kernel)) rfl (lv_at hl 3 rfl) ?_
              refine lv_iload (i := 5) hF.1 hF.2.1 (y_dcd_ok (by decide +kernel)) (lv_at hl 1 rfl) ?_
              refine lv_iload (i := 6) hF.1 hF.2.1 (y_dcd_ok (by decide +kernel)) (lv_at hl 0 rfl) ?_
              refine lv_iload_n (k := 1) hF.1 hF.2.1 (y_dcd_ok (by decide +kernel)) rfl (lv_at hl 4 rfl) ?_
              refine lv_iload_n (k := 3) hF.1 hF.2.1 (y_dcd_ok (by decide +kernel)) rfl (lv_at hl 6 rfl) ?_
              refine xcallV (As := [.int _, .int _, .int _, .int _]) (rest := []) (n := 7162) (j := 54) hF hs hl.1 (hc.hO 93 (by decide)) (cm := xBeA) yo_ym19 rfl (by decide) (by decide +kernel) (show _ = some 4 from by decide +kernel) (by decide +kernel) ⟨by decide, by decide⟩ ⟨rfl, rfl⟩ (Nat.le_of_ble_eq_true rfl) ⟨Nat.zero_le _, Nat.zero_le _⟩ (jM_beA huv' hX3 hT hc (show r < X.n by omega) (show i + 1 < X.S r by omega) (show fr < 100 by omega) hwh hB) (fun H5 locs5 cw5 tys5 rv hs hX5 => ?_)
              obtain ⟨e1, e2', V5, L5, c5, n5, q5, b5⟩ := hX5
              subst e1
              rw [e2'] at hs
              show W _ _ _ _ _ _ _ _ _ _ _ _ _ _ _ (F0 m 69 ls [])
              refine lv_goto (off := 11) (tgt := 80) hF.1 hF.2.1 (y_dcd_ok (by decide +kernel)) (by decide) ?_
              exact next _ _ cw5 V5 L5 ls hs c5 n5 q5 b5 hl
          refine lv_iconst (n := 0) (v := 0) hF.1 hF.2.1 (y_dcd_ok (by decide +kernel)) (by decide) ?_
          refine lv_istore (nL := 7) (i := 6) hF.1 hF.2.1 (y_dcd_ok (by decide +kernel)) hl (by decide) rfl (fun ls hl => ?_)
          exact loopI (X.S r - 1) 0 (by omega) _ _ cw V3 L3 B ls hs hc h3 h4 hB hfin hl
      refine lv_iconst (n := 0) (v := 0) hF.1 hF.2.1 (y_dcd_ok (by decide +kernel)) (by decide) ?_
      refine lv_istore (nL := 7) (i := 5) hF.1 hF.2.1 (y_dcd_ok (by decide +kernel)) hl (by decide) rfl (fun ls hl => ?_)
      exact loopR X.n 0 (by omega) _ _ cw1 V2 L1 _ ls hs c2 (fun _ _ => rfl) (fun _ _ => rfl) b2 (by rw [← jtb_pv]) hl
  refine lv_aload_n (k := 0) hF.1 hF.2.1 (y_dcd_ok (by decide +kernel)) rfl (lv_at hl 0 rfl) ?_
  refine lv_iconst (n := 0) (v := 0) hF.1 hF.2.1 (y_dcd_ok (by decide +kernel)) (by decide) ?_
  refine gpo (n := 3005) (index := 9) hF hs hc 93 (by decide) rfl 1 (by decide) (by decide +kernel) rfl (ty := .int) (by decide +kernel) rfl rfl (Nat.le_of_ble_eq_true rfl) (by decide +kernel) (fun H locs cw hs hc => ?_)
  rw [jOb_op] at hc
  refine lv_iconst (n := 1) (v := 1) hF.1 hF.2.1 (y_dcd_ok (by decide +kernel)) (by decide) ?_
  refine lv_istore (nL := 7) (i := 4) hF.1 hF.2.1 (y_dcd_ok (by decide +kernel)) hl (by decide) rfl (fun ls hl => ?_)
  exact loopM 4 0 (by omega) 98 100 (Or.inl ⟨rfl, rfl, rfl⟩) _ _ cw V L [] [] ls hs hc (fun _ _ _ => rfl) (fun P h => (by cases h)) (fun k x h => (by simp at h)) ⟨fun x => ⟨fun h => (by cases h), fun h => (by cases h.1)⟩, List.Pairwise.nil⟩ rfl hl
end YE
