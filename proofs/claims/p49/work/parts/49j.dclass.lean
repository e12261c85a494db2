-- the class: tryAll, findBest, dispatch
abbrev xTry (k : Nat) : yMR := xmr ⟨"RailwayHouse$Line", "tryAll", "(III)V"⟩ prog_5_method_5_code 6 none ⟨k + 2, 0, 0, 82 + 25 * k⟩ 3
abbrev xFin : yMR := xmr ⟨"RailwayHouse$Line", "findBest", "()I"⟩ prog_5_method_4_code 1 (some .int) ⟨10, 0, 0, 282⟩ 3
section XB
variable {l : Launch} {D : va_G} {b : Nat → Nat} {cw0 : va_W} {ad : Nat → Nat} {cI : Nat → ClassId}
def dTry (l : Launch) (D : va_G) (b : Nat → Nat) (cw0 : va_W) (ad : Nat → Nat) (cI : Nat → ClassId) (n : Nat) (od : Int32) (V0 : Nat → Nat → Int32) (k : Nat) : Prop := ∀ (cw : va_W) (tys : List (ClassId × FieldType)) (sz : Nat) (V : Nat → Nat → Int32) (β : Int32 × List Nat) (ps : List Nat) (msk : Nat), xT 103 113 cI tys → dI ad cI cw0 n od V0 V β cw → dPre (dRo V0) (V 108) (V 109) ps → (∀ t ∈ ps, t < 7) → dmk msk ps → ps.length ≤ n → n ≤ ps.length + k → Met l (y_y (xTry k)) (y_ws ztb (xTry k)) (y_rm (xTry k)) (y_Pc znw b zcls D cw tys sz [.ref (ad 102), .int (nI ps.length), .int (nI msk), .int (dco (dRo V0) ps)]) (y_Q zcls D (fun cw' tys' rv => rv = none ∧ tys' = tys ∧ ∃ V', dI ad cI cw0 n od V0 V' (dtr (dRo V0) n (n - ps.length) ps β) cw' ∧ ∀ j, j < ps.length → V' 108 j = V 108 j ∧ V' 109 j = V 109 j) cw sz) 0 0 (va_A cw sz)
set_option maxHeartbeats 4000000 in
theorem dM_trS {n : Nat} (hn : n ≤ 7) {od : Int32} {V0 : Nat → Nat → Int32} (hB : ∀ i, dB (dRo V0) i) (k : Nat) (rec : ∀ k', k = k' + 1 → dTry l D b cw0 ad cI n od V0 k') : dTry l D b cw0 ad cI n od V0 k := by
  intro cw tys sz V β ps msk hT hI hp hps hmk hlen hlk
  refine xMet (tb := ytb yw00) (mr := xTry k) yo_yr29 (fun x hx => by cases hx) (Nat.le_of_ble_eq_true rfl) ?_
  intro p e s m below meth c Q ls hsz hF hs hl kv ki
  have hl : lv_has ls 6 [(0, .ref (ad 102)), (1, .int (nI ps.length)), (2, .int (nI msk)), (3, .int (dco (dRo V0) ps))] := hl
  generalize va_A cw sz = A at *
  have hc := hI.c
  refine lv_iload_n (k := 3) hF.1 hF.2.1 (y_dcd_ok (show y_dcd prog_5_method_5_code _ _ _ = true by decide +kernel)) rfl (lv_at hl 3 rfl) ?_
  refine lv_aload_n (k := 0) hF.1 hF.2.1 (y_dcd_ok (show y_dcd prog_5_method_5_code _ _ _ = true by decide +kernel)) rfl (lv_at hl 0 rfl) ?_
  refine xgo (n := 3060) (index := 47) hF hs hc rfl 12 (by decide) (show z_w ztb 3060 (.fieldLink "RailwayHouse$Line" _ _ _ _) = true by decide +kernel) rfl (show y_dcd prog_5_method_5_code _ _ _ = true by decide +kernel) ?_
  refine lv_icmp_lt (off := 4) (tgt := 9) hF.1 hF.2.1 (y_dcd_ok (show y_dcd prog_5_method_5_code _ _ _ = true by decide +kernel)) (by decide) (fun hq => ?_) (fun hq => ?_)
  rotate_left
  · exact kv _ _ cw tys ls 8 rfl (show y_dcd prog_5_method_5_code _ _ _ = true by decide +kernel) hs ⟨rfl, rfl, V, by rw [dtr_no hB (by omega) hq]; exact hI, fun j _ => ⟨rfl, rfl⟩⟩
  have hq0 : dco (dRo V0) ps < β.1 := hq
  refine lv_iload_n (k := 1) hF.1 hF.2.1 (y_dcd_ok (show y_dcd prog_5_method_5_code _ _ _ = true by decide +kernel)) rfl (lv_at hl 1 rfl) ?_
  refine lv_aload_n (k := 0) hF.1 hF.2.1 (y_dcd_ok (show y_dcd prog_5_method_5_code _ _ _ = true by decide +kernel)) rfl (lv_at hl 0 rfl) ?_
  refine xgo (n := 3046) (index := 7) hF hs hc rfl 0 (by decide) (show z_w ztb 3046 (.fieldLink "RailwayHouse$Line" _ _ _ _) = true by decide +kernel) rfl (show y_dcd prog_5_method_5_code _ _ _ = true by decide +kernel) ?_
  refine lv_icmp_lt (off := 9) (tgt := 23) hF.1 hF.2.1 (y_dcd_ok (show y_dcd prog_5_method_5_code _ _ _ = true by decide +kernel)) (by decide) (fun hq => ?_) (fun hq => ?_)
  rotate_left
  · have hln : ps.length = n := by
      exact Nat.le_antisymm hlen (Nat.not_lt.mp (fun z => hq ((dni_lt (by omega) (by omega)).mpr z)))
    refine lv_aload_n (k := 0) hF.1 hF.2.1 (y_dcd_ok (show y_dcd prog_5_method_5_code _ _ _ = true by decide +kernel)) rfl (lv_at hl 0 rfl) ?_
    refine lv_iload_n (k := 3) hF.1 hF.2.1 (y_dcd_ok (show y_dcd prog_5_method_5_code _ _ _ = true by decide +kernel)) rfl (lv_at hl 3 rfl) ?_
    refine xcallV (As := [.int _]) (rest := []) (n := 8037) (j := 57) hF hs hl.1 hc.hO (cm := xKee) yo_yr28 rfl (by decide) (show z_w ztb 8037 (.methodLink "RailwayHouse$Line" _ _) = true by decide +kernel) (show _ = some 1 from by decide +kernel) (show y_dcd prog_5_method_5_code _ _ _ = true by decide +kernel) ⟨by show 1 + 1 ≤ k + 2; omega, by show 8 + (3 + 11) + 60 ≤ 82 + 25 * k; omega⟩ ⟨rfl, rfl⟩ (Nat.le_of_ble_eq_true rfl) ⟨Nat.zero_le _, Nat.zero_le _⟩ (dM_kee hn hT hc (fun j hj => dPre_mem hp hps (by omega))) (fun H1 locs1 cw1 tys1 rv hs hX => ?_)
    obtain ⟨e1, e2, V', hK⟩ := hX
    subst e1
    rw [e2] at hs
    refine kv _ _ cw1 tys ls _ rfl (show y_dcd prog_5_method_5_code _ _ _ = true by decide +kernel) hs ⟨rfl, rfl, V', ?_, fun j _ => ⟨by rw [hK.r 108 (by decide)], by rw [hK.r 109 (by decide)]⟩⟩
    rw [hln, Nat.sub_self, dtr_z]
    unfold dup
    rw [if_pos hq0]
    refine ⟨hK.c, fun q h1 h2 => by rw [hK.r q (by omega)]; exact hI.r q h1 h2, dBst_of hps (fun j t hj ht7 et => ?_) hp, fun i hi => ?_⟩
    · have hj : j < ps.length := hj
      have := hK.a j t (by omega) ht7 et
      refine ⟨this.1, this.2.1, ?_⟩
      rw [this.2.2, hI.r 105 (by decide) (by decide)]
      rfl
    · have h1 := hK.bb i hi
      have h2 := hI.b i hi
      exact ⟨h1.1.trans h2.1, h1.2.1.trans h2.2.1, h1.2.2.trans h2.2.2⟩
  have hln : ps.length < n := (dni_lt (by omega) (by omega)).mp hq
  obtain ⟨m0, hm0⟩ : ∃ m0, n - ps.length = m0 + 1 := ⟨n - ps.length - 1, by omega⟩
  obtain ⟨k', rfl⟩ : ∃ k', k = k' + 1 := ⟨k - 1, by omega⟩
  have hl7 : ps.length < 7 := by omega
  have loop : ∀ (d t : Nat), t + d = n → ∀ (H : Heap) (locs : List Loc) (cw : va_W) (V1 : Nat → Nat → Int32) (β1 : Int32 × List Nat) (ls : Array Slot), xs D s A H locs cw tys → dI ad cI cw0 n od V0 V1 β1 cw → (∀ j, j < ps.length → V1 108 j = V 108 j ∧ V1 109 j = V 109 j) → dlf (dRo V0) n m0 ps t β1 = dtr (dRo V0) n (n - ps.length) ps β → lv_has ls 6 [(4, .int (nI t)), (0, .ref (ad 102)), (1, .int (nI ps.length)), (2, .int (nI msk)), (3, .int (dco (dRo V0) ps))] → W p l e (y_rm (xTry (k' + 1))) s m [Value.ref (ad 102), .int (nI ps.length), .int (nI msk), .int (dco (dRo V0) ps)].toArray below meth c H locs 0 0 Q (F0 m 26 ls []) := by
    intro d
    induction d with
    | zero =>
      intro t ht H locs cw V1 β1 ls hs hI1 hpk hfin hl
      have hc := hI1.c
      refine lv_iload (i := 4) hF.1 hF.2.1 (y_dcd_ok (show y_dcd prog_5_method_5_code _ _ _ = true by decide +kernel)) (lv_at hl 0 rfl) ?_
      refine lv_aload_n (k := 0) hF.1 hF.2.1 (y_dcd_ok (show y_dcd prog_5_method_5_code _ _ _ = true by decide +kernel)) rfl (lv_at hl 1 rfl) ?_
      refine xgo (n := 3046) (index := 7) hF hs hc rfl 0 (by decide) (show z_w ztb 3046 (.fieldLink "RailwayHouse$Line" _ _ _ _) = true by decide +kernel) rfl (show y_dcd prog_5_method_5_code _ _ _ = true by decide +kernel) ?_
      refine lv_icmp_ge (off := 92) (tgt := 124) hF.1 hF.2.1 (y_dcd_ok (show y_dcd prog_5_method_5_code _ _ _ = true by decide +kernel)) (by decide) (fun hq => ?_) (fun hq => ?_)
      · refine kv _ _ cw tys ls _ rfl (show y_dcd prog_5_method_5_code _ _ _ = true by decide +kernel) hs ⟨rfl, rfl, V1, ?_, hpk⟩
        rw [← hfin, dlf_n _ _ _ _ _ (by omega)]
        exact hI1
      · exact absurd ((dni_le (by omega) (by omega)).mpr (by omega)) hq
    | succ d ih =>
      intro t ht H locs cw V1 β1 ls hs hI1 hpk hfin hl
      have hc := hI1.c
      have ht7 : t < 7 := by omega
      have htn : t < n := by omega
      refine lv_iload (i := 4) hF.1 hF.2.1 (y_dcd_ok (show y_dcd prog_5_method_5_code _ _ _ = true by decide +kernel)) (lv_at hl 0 rfl) ?_
      refine lv_aload_n (k := 0) hF.1 hF.2.1 (y_dcd_ok (show y_dcd prog_5_method_5_code _ _ _ = true by decide +kernel)) rfl (lv_at hl 1 rfl) ?_
      refine xgo (n := 3046) (index := 7) hF hs hc rfl 0 (by decide) (show z_w ztb 3046 (.fieldLink "RailwayHouse$Line" _ _ _ _) = true by decide +kernel) rfl (show y_dcd prog_5_method_5_code _ _ _ = true by decide +kernel) ?_
      refine lv_icmp_ge (off := 92) (tgt := 124) hF.1 hF.2.1 (y_dcd_ok (show y_dcd prog_5_method_5_code _ _ _ = true by decide +kernel)) (by decide) (fun hq => ?_) (fun hq => ?_)
      · exact absurd ((dni_le (by omega) (by omega)).mp hq) (by omega)
      refine lv_iload_n (k := 2) hF.1 hF.2.1 (y_dcd_ok (show y_dcd prog_5_method_5_code _ _ _ = true by decide +kernel)) rfl (lv_at hl 3 rfl) ?_
      refine lv_iload (i := 4) hF.1 hF.2.1 (y_dcd_ok (show y_dcd prog_5_method_5_code _ _ _ = true by decide +kernel)) (lv_at hl 0 rfl) ?_
      refine xcallN (As := [.int _, .int _]) (rest := []) (n := 25) (j := 61) (host := "RailwayHouse") hF hs hl.1 (cm := xBit) yo_ym81 (by decide) rfl (show _ = some 2 from by decide +kernel) (show y_dcd prog_5_method_5_code _ _ _ = true by decide +kernel) ⟨by show 1 + 1 ≤ k' + 1 + 2; omega, by show 8 + (2 + 11) + 60 ≤ 82 + 25 * (k' + 1); omega⟩ ⟨rfl, rfl⟩ (Nat.le_of_ble_eq_true rfl) ⟨Nat.zero_le _, Nat.zero_le _⟩ (dM_bit (nI msk) (nI t)) (fun H1 locs1 cw1 tys1 rv hs hX => ?_)
      obtain ⟨e1, e2, e3⟩ := hX
      subst e1
      rw [e2, e3] at hs
      show W _ _ _ _ _ _ _ _ _ _ _ _ _ _ _ (F0 m 41 ls [.int (dbt (nI msk) (nI t))])
      refine lv_if_ne (off := 77) (tgt := 118) hF.1 hF.2.1 (y_dcd_ok (show y_dcd prog_5_method_5_code _ _ _ = true by decide +kernel)) (by decide) (fun hq => ?_) (fun hq => ?_)
      · have hcon : ps.contains t = true := by
          have h1 := (dbt_ok hmk.1 ht7).2.2
          rw [← hmk.2 t ht7]
          cases hb : msk.testBit t with
          | true => rfl
          | false => exact absurd (h1.mpr hb) hq
        refine lv_iinc (nL := 6) (i := 4) (n := 1) (k := 0) (v := nI (t + 1)) hF.1 hF.2.1 (y_dcd_ok (show y_dcd prog_5_method_5_code _ _ _ = true by decide +kernel)) hl rfl (dni_add (by omega)) (by decide) rfl (fun ls hl => ?_)
        refine lv_goto (off := (-95)) (tgt := 26) hF.1 hF.2.1 (y_dcd_ok (show y_dcd prog_5_method_5_code _ _ _ = true by decide +kernel)) (by decide) ?_
        refine ih (t + 1) (by omega) _ _ cw V1 β1 ls hs hI1 hpk ?_ hl
        rw [← hfin, dlf_s _ _ _ _ _ htn]
        unfold dst
        rw [if_pos hcon]
      have hcon : ps.contains t = false := by
        have h1 := (dbt_ok hmk.1 ht7).2.2
        rw [← hmk.2 t ht7]
        exact h1.mp hq
      refine lv_aload_n (k := 0) hF.1 hF.2.1 (y_dcd_ok (show y_dcd prog_5_method_5_code _ _ _ = true by decide +kernel)) rfl (lv_at hl 1 rfl) ?_
      refine xgo (n := 3055) (index := 32) hF hs hc rfl 7 (by decide) (show z_w ztb 3055 (.fieldLink "RailwayHouse$Line" _ _ _ _) = true by decide +kernel) rfl (show y_dcd prog_5_method_5_code _ _ _ = true by decide +kernel) ?_
      refine lv_iload_n (k := 1) hF.1 hF.2.1 (y_dcd_ok (show y_dcd prog_5_method_5_code _ _ _ = true by decide +kernel)) rfl (lv_at hl 2 rfl) ?_
      refine lv_iload (i := 4) hF.1 hF.2.1 (y_dcd_ok (show y_dcd prog_5_method_5_code _ _ _ = true by decide +kernel)) (lv_at hl 0 rfl) ?_
      refine xastN (r := 108) hF hs hT (by decide) hc (by decide) (by decide) hl7 (show y_dcd prog_5_method_5_code _ _ _ = true by decide +kernel) (fun H locs cw hs hc => ?_)
      obtain ⟨V2, hV2⟩ : ∃ V2, V2 = xup V1 108 ps.length (nI t) := ⟨_, rfl⟩
      rw [← hV2] at hc
      have q2 : ∀ q, q ≠ 108 → V2 q = V1 q := fun q hq => by rw [hV2, xup_n _ _ _ hq]
      have q2r : dRo V0 = dRo V2 := by
        unfold dRo
        rw [q2 103 (by decide), q2 104 (by decide), q2 105 (by decide), q2 106 (by decide), q2 107 (by decide), hI1.r 103 (by decide) (by decide), hI1.r 104 (by decide) (by decide), hI1.r 105 (by decide) (by decide), hI1.r 106 (by decide) (by decide), hI1.r 107 (by decide) (by decide)]
      have q2o : ∀ j, j ≠ ps.length → V2 108 j = V1 108 j := fun j hj => by rw [hV2, xup_s]; simp [upd, hj]
      have q2p : dPre (dRo V0) (V2 108) (V2 109) ps := dPre_eq (fun j hj => ⟨by rw [q2o j (by omega)]; exact (hpk j hj).1, by rw [q2 109 (by decide)]; exact (hpk j hj).2⟩) hp
      refine lv_aload_n (k := 0) hF.1 hF.2.1 (y_dcd_ok (show y_dcd prog_5_method_5_code _ _ _ = true by decide +kernel)) rfl (lv_at hl 1 rfl) ?_
      refine xgo (n := 3056) (index := 35) hF hs hc rfl 8 (by decide) (show z_w ztb 3056 (.fieldLink "RailwayHouse$Line" _ _ _ _) = true by decide +kernel) rfl (show y_dcd prog_5_method_5_code _ _ _ = true by decide +kernel) ?_
      refine lv_iload_n (k := 1) hF.1 hF.2.1 (y_dcd_ok (show y_dcd prog_5_method_5_code _ _ _ = true by decide +kernel)) rfl (lv_at hl 2 rfl) ?_
      refine lv_aload_n (k := 0) hF.1 hF.2.1 (y_dcd_ok (show y_dcd prog_5_method_5_code _ _ _ = true by decide +kernel)) rfl (lv_at hl 1 rfl) ?_
      refine lv_iload (i := 4) hF.1 hF.2.1 (y_dcd_ok (show y_dcd prog_5_method_5_code _ _ _ = true by decide +kernel)) (lv_at hl 0 rfl) ?_
      refine lv_iload_n (k := 1) hF.1 hF.2.1 (y_dcd_ok (show y_dcd prog_5_method_5_code _ _ _ = true by decide +kernel)) rfl (lv_at hl 2 rfl) ?_
      refine xcallV (As := [.int _, .int _]) (rest := [.int (nI ps.length), .ref (ad 109)]) (n := 8042) (j := 67) hF hs hl.1 hc.hO (cm := xBeg) yo_yr27 rfl (by decide) (show z_w ztb 8042 (.methodLink "RailwayHouse$Line" _ _) = true by decide +kernel) (show _ = some 2 from by decide +kernel) (show y_dcd prog_5_method_5_code _ _ _ = true by decide +kernel) ⟨by show 1 + 1 ≤ k' + 1 + 2; omega, by show 8 + (6 + 11) + 60 ≤ 82 + 25 * (k' + 1); omega⟩ ⟨rfl, rfl⟩ (Nat.le_of_ble_eq_true rfl) ⟨Nat.zero_le _, Nat.zero_le _⟩ (dM_beg hT hc q2r q2p hps (by omega) ht7) (fun H1 locs1 cw2 tys1 rv hs hX => ?_)
      obtain ⟨e1, e2, e3⟩ := hX
      subst e1
      rw [e2, e3] at hs
      show W _ _ _ _ _ _ _ _ _ _ _ _ _ _ _ (F0 m 64 ls [.int (dbg (dRo V0) (t :: ps)), .int (nI ps.length), .ref (ad 109)])
      refine xastN (r := 109) hF hs hT (by decide) hc (by decide) (by decide) hl7 (show y_dcd prog_5_method_5_code _ _ _ = true by decide +kernel) (fun H locs cw hs hc => ?_)
      obtain ⟨V3, hV3⟩ : ∃ V3, V3 = xup V2 109 ps.length (dbg (dRo V0) (t :: ps)) := ⟨_, rfl⟩
      rw [← hV3] at hc
      have q3 : ∀ q, q ≠ 109 → V3 q = V2 q := fun q hq => by rw [hV3, xup_n _ _ _ hq]
      have q3b : V3 109 ps.length = dbg (dRo V0) (t :: ps) := by rw [hV3, xup_s]; simp [upd]
      have q3o : ∀ j, j ≠ ps.length → V3 109 j = V2 109 j := fun j hj => by rw [hV3, xup_s]; simp [upd, hj]
      have r5 : V3 105 t = (dRo V0).k t := by rw [q3 105 (by decide), q2r]; rfl
      have r6 : V3 106 t = (dRo V0).d t := by rw [q3 106 (by decide), q2r]; rfl
      have r7 : V3 107 t = (dRo V0).g t := by rw [q3 107 (by decide), q2r]; rfl
      refine lv_aload_n (k := 0) hF.1 hF.2.1 (y_dcd_ok (show y_dcd prog_5_method_5_code _ _ _ = true by decide +kernel)) rfl (lv_at hl 1 rfl) ?_
      refine xgo (n := 3056) (index := 35) hF hs hc rfl 8 (by decide) (show z_w ztb 3056 (.fieldLink "RailwayHouse$Line" _ _ _ _) = true by decide +kernel) rfl (show y_dcd prog_5_method_5_code _ _ _ = true by decide +kernel) ?_
      refine lv_iload_n (k := 1) hF.1 hF.2.1 (y_dcd_ok (show y_dcd prog_5_method_5_code _ _ _ = true by decide +kernel)) rfl (lv_at hl 2 rfl) ?_
      refine xaldN (r := 109) hF hs hT hc (by decide) (by decide) hl7 (show y_dcd prog_5_method_5_code _ _ _ = true by decide +kernel) ?_
      rw [q3b]
      refine lv_aload_n (k := 0) hF.1 hF.2.1 (y_dcd_ok (show y_dcd prog_5_method_5_code _ _ _ = true by decide +kernel)) rfl (lv_at hl 1 rfl) ?_
      refine xgo (n := 3052) (index := 23) hF hs hc rfl 4 (by decide) (show z_w ztb 3052 (.fieldLink "RailwayHouse$Line" _ _ _ _) = true by decide +kernel) rfl (show y_dcd prog_5_method_5_code _ _ _ = true by decide +kernel) ?_
      refine lv_iload (i := 4) hF.1 hF.2.1 (y_dcd_ok (show y_dcd prog_5_method_5_code _ _ _ = true by decide +kernel)) (lv_at hl 0 rfl) ?_
      refine xaldN (r := 105) hF hs hT hc (by decide) (by decide) ht7 (show y_dcd prog_5_method_5_code _ _ _ = true by decide +kernel) ?_
      rw [r5]
      refine lv_iadd hF.1 hF.2.1 (y_dcd_ok (show y_dcd prog_5_method_5_code _ _ _ = true by decide +kernel)) ?_
      refine lv_aload_n (k := 0) hF.1 hF.2.1 (y_dcd_ok (show y_dcd prog_5_method_5_code _ _ _ = true by decide +kernel)) rfl (lv_at hl 1 rfl) ?_
      refine xgo (n := 3053) (index := 26) hF hs hc rfl 5 (by decide) (show z_w ztb 3053 (.fieldLink "RailwayHouse$Line" _ _ _ _) = true by decide +kernel) rfl (show y_dcd prog_5_method_5_code _ _ _ = true by decide +kernel) ?_
      refine lv_iload (i := 4) hF.1 hF.2.1 (y_dcd_ok (show y_dcd prog_5_method_5_code _ _ _ = true by decide +kernel)) (lv_at hl 0 rfl) ?_
      refine xaldN (r := 106) hF hs hT hc (by decide) (by decide) ht7 (show y_dcd prog_5_method_5_code _ _ _ = true by decide +kernel) ?_
      rw [r6]
      refine lv_isub hF.1 hF.2.1 (y_dcd_ok (show y_dcd prog_5_method_5_code _ _ _ = true by decide +kernel)) ?_
      refine lv_iconst (n := 0) (v := 0) hF.1 hF.2.1 (y_dcd_ok (show y_dcd prog_5_method_5_code _ _ _ = true by decide +kernel)) (by decide) ?_
      refine xmx (n := 8046) (index := 70) hF hl.1 (show z_w ztb 8046 (.methodLink "RailwayHouse$Line" _ Lib.Math.max.name) = true by decide +kernel) dst3 (by show 1 ≤ k' + 1 + 2; omega) (by show 0 + 13 ≤ 82 + 25 * (k' + 1); omega) (Nat.zero_le _) (Nat.zero_le _) (show y_dcd prog_5_method_5_code _ _ _ = true by decide +kernel) ?_
      refine lv_istore (nL := 6) (i := 5) hF.1 hF.2.1 (y_dcd_ok (show y_dcd prog_5_method_5_code _ _ _ = true by decide +kernel)) hl (by decide) rfl (fun ls hl => ?_)
      refine lv_aload_n (k := 0) hF.1 hF.2.1 (y_dcd_ok (show y_dcd prog_5_method_5_code _ _ _ = true by decide +kernel)) rfl (lv_at hl 2 rfl) ?_
      refine lv_iload_n (k := 1) hF.1 hF.2.1 (y_dcd_ok (show y_dcd prog_5_method_5_code _ _ _ = true by decide +kernel)) rfl (lv_at hl 3 rfl) ?_
      refine lv_iconst (n := 1) (v := 1) hF.1 hF.2.1 (y_dcd_ok (show y_dcd prog_5_method_5_code _ _ _ = true by decide +kernel)) (by decide) ?_
      refine lv_iadd hF.1 hF.2.1 (y_dcd_ok (show y_dcd prog_5_method_5_code _ _ _ = true by decide +kernel)) ?_
      rw [dni_add1 (by omega)]
      refine lv_iload_n (k := 2) hF.1 hF.2.1 (y_dcd_ok (show y_dcd prog_5_method_5_code _ _ _ = true by decide +kernel)) rfl (lv_at hl 4 rfl) ?_
      refine lv_iconst (n := 1) (v := 1) hF.1 hF.2.1 (y_dcd_ok (show y_dcd prog_5_method_5_code _ _ _ = true by decide +kernel)) (by decide) ?_
      refine lv_iload (i := 4) hF.1 hF.2.1 (y_dcd_ok (show y_dcd prog_5_method_5_code _ _ _ = true by decide +kernel)) (lv_at hl 1 rfl) ?_
      refine lv_ishl hF.1 hF.2.1 (y_dcd_ok (show y_dcd prog_5_method_5_code _ _ _ = true by decide +kernel)) ?_
      refine lv_ior hF.1 hF.2.1 (y_dcd_ok (show y_dcd prog_5_method_5_code _ _ _ = true by decide +kernel)) ?_
      rw [(dbt_ok hmk.1 ht7).1]
      refine lv_iload_n (k := 3) hF.1 hF.2.1 (y_dcd_ok (show y_dcd prog_5_method_5_code _ _ _ = true by decide +kernel)) rfl (lv_at hl 5 rfl) ?_
      refine lv_aload_n (k := 0) hF.1 hF.2.1 (y_dcd_ok (show y_dcd prog_5_method_5_code _ _ _ = true by decide +kernel)) rfl (lv_at hl 2 rfl) ?_
      refine xgo (n := 3054) (index := 29) hF hs hc rfl 6 (by decide) (show z_w ztb 3054 (.fieldLink "RailwayHouse$Line" _ _ _ _) = true by decide +kernel) rfl (show y_dcd prog_5_method_5_code _ _ _ = true by decide +kernel) ?_
      refine lv_iload (i := 4) hF.1 hF.2.1 (y_dcd_ok (show y_dcd prog_5_method_5_code _ _ _ = true by decide +kernel)) (lv_at hl 1 rfl) ?_
      refine xaldN (r := 107) hF hs hT hc (by decide) (by decide) ht7 (show y_dcd prog_5_method_5_code _ _ _ = true by decide +kernel) ?_
      rw [r7]
      refine lv_iload (i := 5) hF.1 hF.2.1 (y_dcd_ok (show y_dcd prog_5_method_5_code _ _ _ = true by decide +kernel)) (lv_at hl 0 rfl) ?_
      refine lv_imul hF.1 hF.2.1 (y_dcd_ok (show y_dcd prog_5_method_5_code _ _ _ = true by decide +kernel)) ?_
      refine lv_iadd hF.1 hF.2.1 (y_dcd_ok (show y_dcd prog_5_method_5_code _ _ _ = true by decide +kernel)) ?_
      have hI3 : dI ad cI cw0 n od V0 V3 β1 cw := ⟨hc, fun q h1 h2 => by rw [q3 q (by omega), q2 q (by omega)]; exact hI1.r q h1 h2, by rw [q3 110 (by decide), q2 110 (by decide), q3 111 (by decide), q2 111 (by decide), q3 112 (by decide), q2 112 (by decide)]; exact hI1.k, by rw [q3 110 (by decide), q2 110 (by decide), q3 111 (by decide), q2 111 (by decide), q3 112 (by decide), q2 112 (by decide)]; exact hI1.b⟩
      have q3p : dPre (dRo V0) (V3 108) (V3 109) (t :: ps) := ⟨⟨by rw [q3 108 (by decide), hV2, xup_s]; simp [upd], q3b⟩, dPre_eq (fun j hj => ⟨by rw [q3 108 (by decide)], by rw [q3o j (by omega)]⟩) q2p⟩
      refine xcallV (As := [.int (nI (t :: ps).length), .int (nI (msk ||| 2 ^ t)), .int (dco (dRo V0) (t :: ps))]) (rest := []) (n := 8033) (j := 53) hF hs hl.1 hc.hO (cm := xTry k') yo_yr29 rfl (by decide) (show z_w ztb 8033 (.methodLink "RailwayHouse$Line" _ ⟨"RailwayHouse$Line", "tryAll", "(III)V"⟩) = true by decide +kernel) (show (parseMethodDescriptor "(III)V").map (fun d => d.parameters.length) = some 3 from by decide +kernel) (show y_dcd prog_5_method_5_code _ _ _ = true by decide +kernel) ⟨by show k' + 2 + 1 ≤ k' + 1 + 2; omega, by show 8 + (6 + 11) + (82 + 25 * k') ≤ 82 + 25 * (k' + 1); omega⟩ ⟨rfl, rfl⟩ (Nat.le_of_ble_eq_true rfl) ⟨Nat.zero_le _, Nat.zero_le _⟩ (rec k' rfl cw tys _ V3 β1 (t :: ps) (msk ||| 2 ^ t) hT hI3 q3p (fun u hu => by
        rcases List.mem_cons.mp hu with rfl | hu
        · exact ht7
        · exact hps u hu) (dmk_s hmk ht7) (by simp only [List.length_cons]; omega) (by simp only [List.length_cons]; omega)) (fun H1 locs1 cw3 tys1 rv hs hX => ?_)
      obtain ⟨e1, e2, V4, hI4, hk4⟩ := hX
      subst e1
      rw [e2] at hs
      show W _ _ _ _ _ _ _ _ _ _ _ _ _ _ _ (F0 m 118 ls [])
      refine lv_iinc (nL := 6) (i := 4) (n := 1) (k := 1) (v := nI (t + 1)) hF.1 hF.2.1 (y_dcd_ok (show y_dcd prog_5_method_5_code _ _ _ = true by decide +kernel)) hl rfl (dni_add (by omega)) (by decide) rfl (fun ls hl => ?_)
      refine lv_goto (off := (-95)) (tgt := 26) hF.1 hF.2.1 (y_dcd_ok (show y_dcd prog_5_method_5_code _ _ _ = true by decide +kernel)) (by decide) ?_
      refine ih (t + 1) (by omega) _ _ cw3 V4 _ ls hs hI4 (fun j hj => ?_) ?_ (lv_sub hl [0, 2, 3, 4, 5] rfl)
      · have h1 := hk4 j (by simp only [List.length_cons]; omega)
        rw [h1.1, h1.2, q3 108 (by decide), q3o j (by omega), q2o j (by omega), q2 109 (by decide)]
        exact hpk j hj
      · rw [← hfin, dlf_s _ _ _ _ _ htn]
        unfold dst
        rw [hcon, show n - (t :: ps).length = m0 by simp only [List.length_cons]; omega]
        rfl
  refine lv_iconst (n := 0) (v := 0) hF.1 hF.2.1 (y_dcd_ok (show y_dcd prog_5_method_5_code _ _ _ = true by decide +kernel)) (by decide) ?_
  refine lv_istore (nL := 6) (i := 4) hF.1 hF.2.1 (y_dcd_ok (show y_dcd prog_5_method_5_code _ _ _ = true by decide +kernel)) hl (by decide) rfl (fun ls hl => ?_)
  exact loop n 0 (by omega) _ _ cw V β ls hs hI (fun j _ => ⟨rfl, rfl⟩) (by rw [dlf_0, hm0]) hl
theorem dM_try {n : Nat} (hn : n ≤ 7) {od : Int32} {V0 : Nat → Nat → Int32} (hB : ∀ i, dB (dRo V0) i) : ∀ k : Nat, dTry l D b cw0 ad cI n od V0 k
  | 0 => dM_trS hn hB 0 (fun k' h => by omega)
  | k + 1 => dM_trS hn hB (k + 1) (fun k' h => by
    have : k = k' := by omega
    subst this
    exact dM_try hn hB k)
/-- the dearest of all: none yet -/
def dβ0 : Int32 × List Nat := (nI 2147483647, [])
abbrev xDis : yMR := xmr ⟨"RailwayHouse", "dispatch", "()I"⟩ prog_1_method_56_code 1 (some .int) ⟨11, 0, 0, 302⟩ 11
set_option maxHeartbeats 1000000 in
theorem dM_fin {cw : va_W} {tys : List (ClassId × FieldType)} {sz : Nat} {V : Nat → Nat → Int32} {n : Nat} (hn : n ≤ 7) {od bc : Int32} (hB : ∀ i, dB (dRo V) i) (hT : xT 103 113 cI tys) (hc : xc 102 3 103 113 ad cI cw0 V (xLn ad (nI n) od bc) cw) : Met l (y_y xFin) (y_ws ztb xFin) (y_rm xFin) (y_Pc znw b zcls D cw tys sz [.ref (ad 102)]) (y_Q zcls D (fun cw' tys' rv => rv = some (.int (dtr (dRo V) n n [] dβ0).1) ∧ tys' = tys ∧ ∃ V', dI ad cI cw0 n (nI n) V V' (dtr (dRo V) n n [] dβ0) cw') cw sz) 0 0 (va_A cw sz) := by
  refine xMet (tb := ytb yw00) (mr := xFin) yo_ym33 (fun x hx => by cases hx) (Nat.le_of_ble_eq_true rfl) ?_
  intro p e s m below meth c Q ls hsz hF hs hl kv ki
  have hl : lv_has ls 1 [(0, .ref (ad 102))] := hl
  generalize va_A cw sz = A at *
  refine lv_aload_n (k := 0) hF.1 hF.2.1 (y_dcd_ok (by decide +kernel)) rfl (lv_at hl 0 rfl) ?_
  refine lv_ldc (own := "RailwayHouse$Line") (index := 52) (v := nI 2147483647) hF.1 hF.2.1 hF.2.2.2.1 (hF.2.2.2.2.1 _ (z_w_ok (n := 8032) (by decide +kernel))) (y_dcd_ok (by decide +kernel)) ?_
  refine xpo (n := 3060) (index := 47) hF hs (by decide) hc rfl 12 (by decide) (by decide +kernel) rfl (by decide +kernel) (Nat.le_of_ble_eq_true rfl) (by decide +kernel) (fun H locs cw hs hc => ?_)
  have hc : xc 102 3 103 113 ad cI cw0 V (xLn ad (nI n) od (nI 2147483647)) cw := hc
  refine lv_aload_n (k := 0) hF.1 hF.2.1 (y_dcd_ok (by decide +kernel)) rfl (lv_at hl 0 rfl) ?_
  refine lv_aload_n (k := 0) hF.1 hF.2.1 (y_dcd_ok (by decide +kernel)) rfl (lv_at hl 0 rfl) ?_
  refine xgo (n := 3046) (index := 7) hF hs hc rfl 0 (by decide) (by decide +kernel) rfl (by decide +kernel) ?_
  refine xpo (n := 3048) (index := 13) hF hs (by decide) hc rfl 1 (by decide) (by decide +kernel) rfl (by decide +kernel) (Nat.le_of_ble_eq_true rfl) (by decide +kernel) (fun H locs cw hs hc => ?_)
  have hc : xc 102 3 103 113 ad cI cw0 V (xLn ad (nI n) (nI n) (nI 2147483647)) cw := hc
  refine lv_aload_n (k := 0) hF.1 hF.2.1 (y_dcd_ok (by decide +kernel)) rfl (lv_at hl 0 rfl) ?_
  refine lv_iconst (n := 0) (v := 0) hF.1 hF.2.1 (y_dcd_ok (by decide +kernel)) (by decide) ?_
  refine lv_iconst (n := 0) (v := 0) hF.1 hF.2.1 (y_dcd_ok (by decide +kernel)) (by decide) ?_
  refine lv_iconst (n := 0) (v := 0) hF.1 hF.2.1 (y_dcd_ok (by decide +kernel)) (by decide) ?_
  have hI : dI ad cI cw0 n (nI n) V V dβ0 cw := ⟨hc, fun q _ _ => rfl, trivial, fun i _ => ⟨rfl, rfl, rfl⟩⟩
  refine xcallV (As := [.int (nI ([] : List Nat).length), .int (nI 0), .int (dco (dRo V) [])]) (rest := []) (n := 8033) (j := 53) hF hs hl.1 hc.hO (cm := xTry 7) yo_yr29 rfl (by decide) (by decide +kernel) (show _ = some 3 from by decide +kernel) (by decide +kernel) ⟨by decide, by decide⟩ ⟨rfl, rfl⟩ (Nat.le_of_ble_eq_true rfl) ⟨Nat.zero_le _, Nat.zero_le _⟩ (dM_try hn hB 7 cw tys _ V dβ0 [] 0 hT hI trivial (fun t ht => by cases ht) dmk_0 (Nat.zero_le _) (by simp only [List.length_nil]; omega)) (fun H1 locs1 cw1 tys1 rv hs hX => ?_)
  obtain ⟨e1, e2, V', hI', _⟩ := hX
  subst e1
  rw [e2] at hs
  have hc := hI'.c
  show W _ _ _ _ _ _ _ _ _ _ _ _ _ _ _ (F0 m 21 ls [])
  refine lv_aload_n (k := 0) hF.1 hF.2.1 (y_dcd_ok (by decide +kernel)) rfl (lv_at hl 0 rfl) ?_
  refine xgo (n := 3060) (index := 47) hF hs hc rfl 12 (by decide) (by decide +kernel) rfl (by decide +kernel) ?_
  exact ki _ _ cw1 tys ls _ _ .int rfl rfl (by decide +kernel) hs ⟨rfl, rfl, V', hI'⟩
/-- dispatch of the class -/
theorem dM_dis {cw : va_W} {tys : List (ClassId × FieldType)} {sz : Nat} {V : Nat → Nat → Int32} {n : Nat} (hn : n ≤ 7) {od bc : Int32} (hB : ∀ i, dB (dRo V) i) (hT : xT 103 113 cI tys) (hc : xc 102 3 103 113 ad cI cw0 V (xLn ad (nI n) od bc) cw) {a0 : Nat} {vs0 : List Value} (h0 : cw[0]? = some (a0, .inr (11, vs0))) (h8 : vs0[8]? = some (.ref (ad 102))) : Met l (y_y xDis) (y_ws ztb xDis) (y_rm xDis) (y_Pc znw b zcls D cw tys sz [.ref a0]) (y_Q zcls D (fun cw' tys' rv => rv = some (.int (dtr (dRo V) n n [] dβ0).1) ∧ tys' = tys ∧ ∃ V', dI ad cI cw0 n (nI n) V V' (dtr (dRo V) n n [] dβ0) cw') cw sz) 0 0 (va_A cw sz) := by
  refine xMet (tb := ytb yw00) (mr := xDis) yo_yr135 (fun x hx => by cases hx) (Nat.le_of_ble_eq_true rfl) ?_
  intro p e s m below meth c Q ls hsz hF hs hl kv ki
  have hl : lv_has ls 1 [(0, .ref a0)] := hl
  generalize va_A cw sz = A at *
  refine lv_aload_n (k := 0) hF.1 hF.2.1 (y_dcd_ok (by decide +kernel)) rfl (lv_at hl 0 rfl) ?_
  refine xget (n := 3140) (index := 74) hF hs h0 rfl 8 (by decide) (by decide +kernel) h8 (by decide +kernel) ?_
  refine xcallV (As := []) (rest := []) (n := 8028) (j := 433) hF hs hl.1 hc.hO (cm := xFin) yo_ym33 rfl (by decide) (by decide +kernel) (show _ = some 0 from by decide +kernel) (by decide +kernel) ⟨by decide, by decide⟩ ⟨rfl, rfl⟩ (Nat.le_of_ble_eq_true rfl) ⟨Nat.zero_le _, Nat.zero_le _⟩ (dM_fin hn hB hT hc) (fun H1 locs1 cw1 tys1 rv hs hX => ?_)
  obtain ⟨e1, e2, V', hI'⟩ := hX
  subst e1
  rw [e2] at hs
  exact ki _ _ cw1 tys ls _ _ .int rfl rfl (by decide +kernel) hs ⟨rfl, rfl, V', hI'⟩
end XB
