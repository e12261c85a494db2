-- leg on both sides
theorem lg_shr {x z : Int64} (hx : x.toBitVec.msb = false) : (x.toUInt64 >>> (z.toUInt64 &&& Int64.toUInt64 63)).toInt64 = x >>> (z &&& 63) := by
  apply Int64.toBitVec_inj.mp
  rw [Int64.toBitVec_shiftRight]
  show x.toBitVec >>> ((z.toBitVec &&& 63#64) % 64#64) = x.toBitVec.sshiftRight' ((z.toBitVec &&& 63#64).smod 64#64)
  have hm : (z.toBitVec &&& 63#64).toNat < 64 := by
    rw [BitVec.toNat_and]
    exact Nat.lt_of_le_of_lt Nat.and_le_right (by decide)
  generalize z.toBitVec &&& 63#64 = m at hm ⊢
  have e1 : m % 64#64 = m := by
    apply BitVec.eq_of_toNat_eq
    rw [BitVec.toNat_umod]
    exact Nat.mod_eq_of_lt hm
  have hmsb : m.msb = false := by
    rw [BitVec.msb_eq_false_iff_two_mul_lt]
    omega
  have e2 : m.smod 64#64 = m := by
    rw [BitVec.smod_eq, hmsb, show (64#64).msb = false from by decide]
    exact e1
  rw [e1, e2]
  exact (BitVec.sshiftRight_eq_of_msb_false (s := m.toNat) hx).symm
def lgc1 (m j : Int32) (c : Int64) : Int32 := (c.toUInt64 >>> (((m - 1 - j) * 10).toInt64.toUInt64 &&& Int64.toUInt64 63)).toInt64.toInt32 &&& 1023
def lgc2 (m j : Int32) (c : Int64) : Int32 := ((c >>> ((10 * (m - 1 - j)).toInt64 &&& 63)) &&& 1023).toInt32
theorem lgc_eq (m j : Int32) {n : Nat} (hn : n < 2 ^ 60) : lgc1 m j (nL n) = lgc2 m j (nL n) := by
  have hx : (nL n).toBitVec.msb = false := by
    show (BitVec.ofNat 64 n).msb = false
    rw [BitVec.msb_eq_false_iff_two_mul_lt, BitVec.toNat_ofNat, Nat.mod_eq_of_lt (by omega)]
    omega
  unfold lgc1 lgc2
  rw [lg_shr hx, Int64.toInt32_and, Int32.mul_comm (m - 1 - j) 10, show (1023 : Int64).toInt32 = (1023 : Int32) from by decide]
/-- which of a leg's numbers -/
def lgw (w x : Int32) : Int32 := if w = 0 then x >>> (6 &&& 31) else if w = 1 then (x >>> (3 &&& 31)) &&& 7 else x &&& 7
def lgS (j w m t : Int32) : Int32 := if 0 ≤ w ∧ w ≤ 2 then (if 0 ≤ j ∧ j < m then t else -9) else -2
abbrev xHop : yMR := xmr ⟨"RailwayHouse$Journeys", "hasOption", "(I)Z"⟩ prog_3_method_2_code 2 (some .boolean) ⟨1, 0, 0, 60⟩ 1
abbrev xTel : yMR := xmr ⟨"RailwayHouse$Journeys", "tellLeg", "(III)I"⟩ prog_3_method_3_code 6 (some .int) ⟨1, 0, 0, 60⟩ 1
abbrev xLgc : yMR := xmr ⟨"RailwayHouse", "leg", "(III)I"⟩ prog_1_method_48_code 4 (some .int) ⟨2, 0, 0, 85⟩ 11
abbrev xLgm : yMR := xmr ⟨"RailwayHouseModel", "leg", "(III)I"⟩ prog_14_method_157_code 5 (some .int) ⟨2, 0, 0, 82⟩ 12
section ZL
variable {l : Launch} {D : va_G} {b : Nat → Nat} {cw : va_W} {tys : List (ClassId × FieldType)} {sz : Nat} {ad : Nat → Nat} {cI : Nat → ClassId} {V : Nat → Nat → Int32} {L : Nat → Nat → Int64}
theorem lM_hop {op : Int32} {u v : Nat} {rn ho he : Int32} (hc : jW ad cI op u v rn ho he V L cw) (k : Int32) : Met l (y_y xHop) (y_ws ztb xHop) (y_rm xHop) (y_Pc znw b zcls D cw tys sz [.ref (ad 93), .int k]) (y_Q zcls D (fun cw' tys' rv => rv = some (.int (if 0 ≤ k ∧ k < op then 1 else 0)) ∧ tys' = tys ∧ cw' = cw) cw sz) 0 0 (va_A cw sz) := by
  refine xMet (tb := ytb yw00) (mr := xHop) yo_ym21 (fun x hx => by cases hx) (Nat.le_of_ble_eq_true rfl) ?_
  intro p e s m below meth c Q ls hsz hF hs hl kv ki
  have hl : lv_has ls 2 [(0, .ref (ad 93)), (1, .int k)] := hl
  refine lv_iload_n (k := 1) hF.1 hF.2.1 (y_dcd_ok (by decide +kernel)) rfl (lv_at hl 1 rfl) ?_
  refine lv_if_lt (off := 15) (tgt := 16) hF.1 hF.2.1 (y_dcd_ok (by decide +kernel)) (by decide) (fun hq => ?_) (fun hq => ?_)
  · show W _ _ _ _ _ _ _ _ _ _ _ _ _ _ _ (F0 m 16 ls [])
    refine lv_iconst (n := 0) (v := 0) hF.1 hF.2.1 (y_dcd_ok (by decide +kernel)) (by decide) ?_
    exact ki _ _ cw tys ls 17 _ .boolean rfl rfl (by decide +kernel) hs ⟨by rw [if_neg (fun q => absurd q.1 (Int32.not_le.mpr hq))], rfl, rfl⟩
  have h1 := Int32.not_lt.mp hq
  refine lv_iload_n (k := 1) hF.1 hF.2.1 (y_dcd_ok (by decide +kernel)) rfl (lv_at hl 1 rfl) ?_
  refine lv_aload_n (k := 0) hF.1 hF.2.1 (y_dcd_ok (by decide +kernel)) rfl (lv_at hl 0 rfl) ?_
  refine ggo (n := 3005) (index := 9) hF hs hc 93 (by decide) rfl 1 (by decide) (by decide +kernel) rfl (by decide +kernel) ?_
  refine lv_icmp_ge (off := 7) (tgt := 16) hF.1 hF.2.1 (y_dcd_ok (by decide +kernel)) (by decide) (fun hq => ?_) (fun hq => ?_)
  · show W _ _ _ _ _ _ _ _ _ _ _ _ _ _ _ (F0 m 16 ls [])
    refine lv_iconst (n := 0) (v := 0) hF.1 hF.2.1 (y_dcd_ok (by decide +kernel)) (by decide) ?_
    exact ki _ _ cw tys ls 17 _ .boolean rfl rfl (by decide +kernel) hs ⟨by rw [if_neg (fun q => absurd q.2 (Int32.not_lt.mpr hq))], rfl, rfl⟩
  have h2 : k < op := Int32.not_le.mp hq
  refine lv_iconst (n := 1) (v := 1) hF.1 hF.2.1 (y_dcd_ok (by decide +kernel)) (by decide) ?_
  refine lv_goto (off := 4) (tgt := 17) hF.1 hF.2.1 (y_dcd_ok (by decide +kernel)) (by decide) ?_
  exact ki _ _ cw tys ls 17 _ .boolean rfl rfl (by decide +kernel) hs ⟨by rw [if_pos ⟨h1, h2⟩], rfl, rfl⟩
theorem lM_tel {op : Int32} {u v : Nat} {rn ho he : Int32} (hT : xgT jI jJ cI tys) (hc : jW ad cI op u v rn ho he V L cw) {kk : Nat} (hk : kk < 148) (j w : Int32) : Met l (y_y xTel) (y_ws ztb xTel) (y_rm xTel) (y_Pc znw b zcls D cw tys sz [.ref (ad 93), .int (nI kk), .int j, .int w]) (y_Q zcls D (fun cw' tys' rv => rv = some (.int (lgw w (lgc1 (V 95 kk) j (L 97 kk)))) ∧ tys' = tys ∧ cw' = cw) cw sz) 0 0 (va_A cw sz) := by
  refine xMet (tb := ytb yw00) (mr := xTel) yo_ym24 (fun x hx => by cases hx) (Nat.le_of_ble_eq_true rfl) ?_
  intro p e s m below meth c Q ls hsz hF hs hl kv ki
  have hl : lv_has ls 6 [(0, .ref (ad 93)), (1, .int (nI kk)), (2, .int j), (3, .int w)] := hl
  refine lv_aload_n (k := 0) hF.1 hF.2.1 (y_dcd_ok (by decide +kernel)) rfl (lv_at hl 0 rfl) ?_
  refine ggo (n := 3009) (index := 19) hF hs hc 93 (by decide) rfl 3 (by decide) (by decide +kernel) rfl (by decide +kernel) ?_
  refine lv_iload_n (k := 1) hF.1 hF.2.1 (y_dcd_ok (by decide +kernel)) rfl (lv_at hl 1 rfl) ?_
  refine gald hF hs hT hc 95 148 (by decide) (by decide) hk (by decide +kernel) ?_
  refine lv_iconst (n := 1) (v := 1) hF.1 hF.2.1 (y_dcd_ok (by decide +kernel)) (by decide) ?_
  refine lv_isub hF.1 hF.2.1 (y_dcd_ok (by decide +kernel)) ?_
  refine lv_iload_n (k := 2) hF.1 hF.2.1 (y_dcd_ok (by decide +kernel)) rfl (lv_at hl 2 rfl) ?_
  refine lv_isub hF.1 hF.2.1 (y_dcd_ok (by decide +kernel)) ?_
  refine lv_bipush (n := 10) (v := 10) hF.1 hF.2.1 (y_dcd_ok (by decide +kernel)) (by decide) ?_
  refine lv_imul hF.1 hF.2.1 (y_dcd_ok (by decide +kernel)) ?_
  refine lv_istore (nL := 6) (i := 4) hF.1 hF.2.1 (y_dcd_ok (by decide +kernel)) hl (by decide) rfl (fun ls hl => ?_)
  refine lv_aload_n (k := 0) hF.1 hF.2.1 (y_dcd_ok (by decide +kernel)) rfl (lv_at hl 1 rfl) ?_
  refine ggo (n := 3013) (index := 25) hF hs hc 93 (by decide) rfl 5 (by decide) (by decide +kernel) rfl (by decide +kernel) ?_
  refine lv_iload_n (k := 1) hF.1 hF.2.1 (y_dcd_ok (by decide +kernel)) rfl (lv_at hl 2 rfl) ?_
  refine glald hF hs hT hc 97 148 (by decide) (by decide) hk (by decide +kernel) ?_
  refine lv_iload (i := 4) hF.1 hF.2.1 (y_dcd_ok (by decide +kernel)) (lv_at hl 0 rfl) ?_
  refine lv_lushr hF.1 hF.2.1 (y_dcd_ok (by decide +kernel)) rfl ?_
  refine lv_l2i hF.1 hF.2.1 (y_dcd_ok (by decide +kernel)) rfl ?_
  refine lv_sipush (n := 1023) (v := 1023) hF.1 hF.2.1 (y_dcd_ok (by decide +kernel)) (by decide) ?_
  refine lv_iand hF.1 hF.2.1 (y_dcd_ok (by decide +kernel)) ?_
  refine lv_istore (nL := 6) (i := 5) hF.1 hF.2.1 (y_dcd_ok (by decide +kernel)) hl (by decide) rfl (fun ls hl => ?_)
  refine lv_iload_n (k := 3) hF.1 hF.2.1 (y_dcd_ok (by decide +kernel)) rfl (lv_at hl 5 rfl) ?_
  refine lv_if_ne (off := 11) (tgt := 43) hF.1 hF.2.1 (y_dcd_ok (by decide +kernel)) (by decide) (fun hq => ?_) (fun hq => ?_)
  rotate_left
  refine lv_iload (i := 5) hF.1 hF.2.1 (y_dcd_ok (by decide +kernel)) (lv_at hl 0 rfl) ?_
  refine lv_bipush (n := 6) (v := 6) hF.1 hF.2.1 (y_dcd_ok (by decide +kernel)) (by decide) ?_
  refine lv_ishr hF.1 hF.2.1 (y_dcd_ok (by decide +kernel)) ?_
  refine lv_goto (off := 23) (tgt := 63) hF.1 hF.2.1 (y_dcd_ok (by decide +kernel)) (by decide) ?_
  · exact ki _ _ cw tys ls 63 _ .int rfl rfl (by decide +kernel) hs ⟨by rw [show lgw w (lgc1 (V 95 kk) j (L 97 kk)) = lgc1 (V 95 kk) j (L 97 kk) >>> (6 &&& 31) from if_pos hq]; rfl, rfl, rfl⟩
  have h0 : ¬ w = 0 := hq
  clear hq
  refine lv_iload_n (k := 3) hF.1 hF.2.1 (y_dcd_ok (by decide +kernel)) rfl (lv_at hl 5 rfl) ?_
  refine lv_iconst (n := 1) (v := 1) hF.1 hF.2.1 (y_dcd_ok (by decide +kernel)) (by decide) ?_
  refine lv_icmp_ne (off := 13) (tgt := 58) hF.1 hF.2.1 (y_dcd_ok (by decide +kernel)) (by decide) (fun hq => ?_) (fun hq => ?_)
  · have h1 : ¬ w = 1 := hq
    show W _ _ _ _ _ _ _ _ _ _ _ _ _ _ _ (F0 m 58 ls [])
    refine lv_iload (i := 5) hF.1 hF.2.1 (y_dcd_ok (by decide +kernel)) (lv_at hl 0 rfl) ?_
    refine lv_bipush (n := 7) (v := 7) hF.1 hF.2.1 (y_dcd_ok (by decide +kernel)) (by decide) ?_
    refine lv_iand hF.1 hF.2.1 (y_dcd_ok (by decide +kernel)) ?_
    exact ki _ _ cw tys ls 63 _ .int rfl rfl (by decide +kernel) hs ⟨by rw [show lgw w (lgc1 (V 95 kk) j (L 97 kk)) = lgc1 (V 95 kk) j (L 97 kk) &&& 7 from by unfold lgw; rw [if_neg h0, if_neg h1]]; rfl, rfl, rfl⟩
  have h1 : w = 1 := hq
  refine lv_iload (i := 5) hF.1 hF.2.1 (y_dcd_ok (by decide +kernel)) (lv_at hl 0 rfl) ?_
  refine lv_iconst (n := 3) (v := 3) hF.1 hF.2.1 (y_dcd_ok (by decide +kernel)) (by decide) ?_
  refine lv_ishr hF.1 hF.2.1 (y_dcd_ok (by decide +kernel)) ?_
  refine lv_bipush (n := 7) (v := 7) hF.1 hF.2.1 (y_dcd_ok (by decide +kernel)) (by decide) ?_
  refine lv_iand hF.1 hF.2.1 (y_dcd_ok (by decide +kernel)) ?_
  refine lv_goto (off := 8) (tgt := 63) hF.1 hF.2.1 (y_dcd_ok (by decide +kernel)) (by decide) ?_
  exact ki _ _ cw tys ls 63 _ .int rfl rfl (by decide +kernel) hs ⟨by rw [show lgw w (lgc1 (V 95 kk) j (L 97 kk)) = (lgc1 (V 95 kk) j (L 97 kk) >>> (3 &&& 31)) &&& 7 from by unfold lgw; rw [if_neg h0, if_pos h1]]; rfl, rfl, rfl⟩
theorem lg_k {k : Int32} {mm : Nat} (hm : mm ≤ 148) : (0 ≤ k ∧ k < nI mm) ↔ (0 ≤ k.toInt ∧ k.toInt < mm) := by
  have e0 : (0 : Int32).toInt = 0 := by decide
  have h1 := dni_int (k := mm) (by omega)
  constructor
  · rintro ⟨a, b⟩
    have a := Int32.le_iff_toInt_le.mp a
    have b := Int32.lt_iff_toInt_lt.mp b
    omega
  · rintro ⟨a, b⟩
    exact ⟨Int32.le_iff_toInt_le.mpr (by omega), Int32.lt_iff_toInt_lt.mpr (by omega)⟩
theorem lg_nat {k : Int32} {mm : Nat} (hm : mm ≤ 148) (h : 0 ≤ k.toInt ∧ k.toInt < mm) : ∃ kk, kk < mm ∧ k = nI kk := by
  refine ⟨k.toInt.toNat, by omega, ?_⟩
  apply Int32.toInt_inj.mp
  rw [dni_int (by omega)]
  omega
def lgQ (mm : Nat) (k j w : Int32) (M : Nat → Int32) (T : Nat → Int32) (r : Int32) : Prop := (¬ (0 ≤ k.toInt ∧ k.toInt < mm) ∧ r = -1) ∨ ∃ kk, kk < mm ∧ k = nI kk ∧ r = lgS j w (M kk) (T kk)
set_option maxHeartbeats 2000000 in
theorem lM_leg {mm : Nat} (hm : mm ≤ 148) {rn ho he : Int32} (hT : xgT jI jJ cI tys) (hc : jW ad cI (nI mm) 98 100 rn ho he V L cw) {a0 : Nat} {vs0 : List Value} (h0 : cw[0]? = some (a0, .inr (11, vs0))) (h7 : vs0[7]? = some (.ref (ad 93))) (k j w : Int32) : Met l (y_y xLgc) (y_ws ztb xLgc) (y_rm xLgc) (y_Pc znw b zcls D cw tys sz [.ref a0, .int k, .int j, .int w]) (y_Q zcls D (fun cw' tys' rv => tys' = tys ∧ cw' = cw ∧ ∃ r, rv = some (.int r) ∧ lgQ mm k j w (V 95) (fun kk => lgw w (lgc1 (V 95 kk) j (L 97 kk))) r) cw sz) 0 0 (va_A cw sz) := by
  refine xMet (tb := ytb yw00) (mr := xLgc) yo_yr147 (fun x hx => by cases hx) (Nat.le_of_ble_eq_true rfl) ?_
  intro p e s m below meth c Q ls hsz hF hs hl kv ki
  have hl : lv_has ls 4 [(0, .ref a0), (1, .int k), (2, .int j), (3, .int w)] := hl
  generalize va_A cw sz = A at *
  refine lv_aload_n (k := 0) hF.1 hF.2.1 (y_dcd_ok (by decide +kernel)) rfl (lv_at hl 0 rfl) ?_
  refine xget (n := 3139) (index := 67) hF hs h0 rfl 7 (by decide) (by decide +kernel) h7 (by decide +kernel) ?_
  refine lv_iload_n (k := 1) hF.1 hF.2.1 (y_dcd_ok (by decide +kernel)) rfl (lv_at hl 1 rfl) ?_
  refine xcallV (As := [.int _]) (rest := []) (n := 7204) (j := 381) hF hs hl.1 (hc.hO 93 (by decide)) (cm := xHop) yo_ym21 rfl (by decide) (by decide +kernel) (show _ = some 1 from by decide +kernel) (by decide +kernel) ⟨by decide, by decide⟩ ⟨rfl, rfl⟩ (Nat.le_of_ble_eq_true rfl) ⟨Nat.zero_le _, Nat.zero_le _⟩ (lM_hop hc k) (fun H1 locs1 cw1 tys1 rv hs hX1 => ?_)
  obtain ⟨e1, e2, e3⟩ := hX1
  subst e1
  rw [e2, e3] at hs
  show W _ _ _ _ _ _ _ _ _ _ _ _ _ _ _ (F0 m 8 ls [.int (if 0 ≤ k ∧ k < nI mm then 1 else 0)])
  refine lv_if_ne (off := 5) (tgt := 13) hF.1 hF.2.1 (y_dcd_ok (by decide +kernel)) (by decide) (fun hq => ?_) (fun hq => ?_)
  rotate_left
  · have hn : ¬ (0 ≤ k ∧ k < nI mm) := fun q => by
      rw [if_pos q] at hq
      exact absurd hq (by decide)
    refine lv_iconst (n := -1) (v := -1) hF.1 hF.2.1 (y_dcd_ok (by decide +kernel)) (by decide) ?_
    exact ki _ _ cw tys ls 12 _ .int rfl rfl (by decide +kernel) hs ⟨rfl, rfl, _, rfl, Or.inl ⟨fun q => hn ((lg_k hm).mpr q), rfl⟩⟩
  have hki : 0 ≤ k ∧ k < nI mm := by
    by_cases q : 0 ≤ k ∧ k < nI mm
    · exact q
    · rw [if_neg q] at hq
      exact absurd rfl hq
  clear hq
  obtain ⟨kk, hkk, rfl⟩ := lg_nat hm ((lg_k hm).mp hki)
  have hk8 : kk < 148 := by omega
  have no2 : ¬ (0 ≤ w ∧ w ≤ 2) → ∀ (H : Heap) (locs : List Loc) (ls : Array Slot), xs D s A H locs cw tys → W p l e (y_rm xLgc) s m [Value.ref a0, .int (nI kk), .int j, .int w].toArray below meth c H locs 0 0 Q (F0 m 22 ls []) := fun hn H locs ls hs => by
    refine lv_bipush (n := -2) (v := -2) hF.1 hF.2.1 (y_dcd_ok (by decide +kernel)) (by decide) ?_
    exact ki _ _ cw tys ls 24 _ .int rfl rfl (by decide +kernel) hs ⟨rfl, rfl, _, rfl, Or.inr ⟨kk, hkk, rfl, (if_neg hn).symm⟩⟩
  refine lv_iload_n (k := 3) hF.1 hF.2.1 (y_dcd_ok (by decide +kernel)) rfl (lv_at hl 3 rfl) ?_
  refine lv_if_lt (off := 8) (tgt := 22) hF.1 hF.2.1 (y_dcd_ok (by decide +kernel)) (by decide) (fun hq => ?_) (fun hq => ?_)
  · exact no2 (fun q => absurd q.1 (Int32.not_le.mpr hq)) _ _ ls hs
  have hw0 := Int32.not_lt.mp hq
  clear hq
  refine lv_iload_n (k := 3) hF.1 hF.2.1 (y_dcd_ok (by decide +kernel)) rfl (lv_at hl 3 rfl) ?_
  refine lv_iconst (n := 2) (v := 2) hF.1 hF.2.1 (y_dcd_ok (by decide +kernel)) (by decide) ?_
  refine lv_icmp_le (off := 6) (tgt := 25) hF.1 hF.2.1 (y_dcd_ok (by decide +kernel)) (by decide) (fun hq => ?_) (fun hq => ?_)
  rotate_left
  · exact no2 (fun q => hq q.2) _ _ ls hs
  have hw : 0 ≤ w ∧ w ≤ 2 := ⟨hw0, hq⟩
  clear hq
  have no9 : ¬ (0 ≤ j ∧ j < V 95 kk) → ∀ (H : Heap) (locs : List Loc) (ls : Array Slot), xs D s A H locs cw tys → W p l e (y_rm xLgc) s m [Value.ref a0, .int (nI kk), .int j, .int w].toArray below meth c H locs 0 0 Q (F0 m 42 ls []) := fun hn H locs ls hs => by
    refine lv_bipush (n := -9) (v := -9) hF.1 hF.2.1 (y_dcd_ok (by decide +kernel)) (by decide) ?_
    refine lv_goto (off := 13) (tgt := 57) hF.1 hF.2.1 (y_dcd_ok (by decide +kernel)) (by decide) ?_
    exact ki _ _ cw tys ls 57 _ .int rfl rfl (by decide +kernel) hs ⟨rfl, rfl, _, rfl, Or.inr ⟨kk, hkk, rfl, by unfold lgS; rw [if_pos hw, if_neg hn]⟩⟩
  refine lv_iload_n (k := 2) hF.1 hF.2.1 (y_dcd_ok (by decide +kernel)) rfl (lv_at hl 2 rfl) ?_
  refine lv_if_lt (off := 16) (tgt := 42) hF.1 hF.2.1 (y_dcd_ok (by decide +kernel)) (by decide) (fun hq => ?_) (fun hq => ?_)
  · exact no9 (fun q => absurd q.1 (Int32.not_le.mpr hq)) _ _ ls hs
  have hj0 := Int32.not_lt.mp hq
  clear hq
  refine lv_iload_n (k := 2) hF.1 hF.2.1 (y_dcd_ok (by decide +kernel)) rfl (lv_at hl 2 rfl) ?_
  refine lv_aload_n (k := 0) hF.1 hF.2.1 (y_dcd_ok (by decide +kernel)) rfl (lv_at hl 0 rfl) ?_
  refine xget (n := 3139) (index := 67) hF hs h0 rfl 7 (by decide) (by decide +kernel) h7 (by decide +kernel) ?_
  refine ggo (n := 3010) (index := 387) hF hs hc 93 (by decide) rfl 3 (by decide) (by decide +kernel) rfl (by decide +kernel) ?_
  refine lv_iload_n (k := 1) hF.1 hF.2.1 (y_dcd_ok (by decide +kernel)) rfl (lv_at hl 1 rfl) ?_
  refine gald hF hs hT hc 95 148 (by decide) (by decide) hk8 (by decide +kernel) ?_
  refine lv_icmp_lt (off := 8) (tgt := 47) hF.1 hF.2.1 (y_dcd_ok (by decide +kernel)) (by decide) (fun hq => ?_) (fun hq => ?_)
  rotate_left
  · exact no9 (fun q => hq q.2) _ _ ls hs
  have hj : 0 ≤ j ∧ j < V 95 kk := ⟨hj0, hq⟩
  clear hq
  refine lv_aload_n (k := 0) hF.1 hF.2.1 (y_dcd_ok (by decide +kernel)) rfl (lv_at hl 0 rfl) ?_
  refine xget (n := 3139) (index := 67) hF hs h0 rfl 7 (by decide) (by decide +kernel) h7 (by decide +kernel) ?_
  refine lv_iload_n (k := 1) hF.1 hF.2.1 (y_dcd_ok (by decide +kernel)) rfl (lv_at hl 1 rfl) ?_
  refine lv_iload_n (k := 2) hF.1 hF.2.1 (y_dcd_ok (by decide +kernel)) rfl (lv_at hl 2 rfl) ?_
  refine lv_iload_n (k := 3) hF.1 hF.2.1 (y_dcd_ok (by decide +kernel)) rfl (lv_at hl 3 rfl) ?_
  refine xcallV (As := [.int _, .int _, .int _]) (rest := []) (n := 7212) (j := 393) hF hs hl.1 (hc.hO 93 (by decide)) (cm := xTel) yo_ym24 rfl (by decide) (by decide +kernel) (show _ = some 3 from by decide +kernel) (by decide +kernel) ⟨by decide, by decide⟩ ⟨rfl, rfl⟩ (Nat.le_of_ble_eq_true rfl) ⟨Nat.zero_le _, Nat.zero_le _⟩ (lM_tel hT hc hk8 j w) (fun H1 locs1 cw1 tys1 rv hs hX1 => ?_)
  obtain ⟨e1, e2, e3⟩ := hX1
  subst e1
  rw [e2, e3] at hs
  exact ki _ _ cw tys ls _ _ .int rfl rfl (by decide +kernel) hs ⟨rfl, rfl, _, rfl, Or.inr ⟨kk, hkk, rfl, by unfold lgS; rw [if_pos hw, if_pos hj]⟩⟩
theorem lg_km {k : Int32} {mm : Nat} (hm : mm ≤ 148) : (0 ≤ k ∧ k ≤ nI mm - 1) ↔ (0 ≤ k.toInt ∧ k.toInt < mm) := by
  have e : (nI mm - 1).toInt = (mm : Int) - 1 := by
    have h1 := dni_int (k := mm) (by omega)
    have e1 : (1 : Int32).toInt = 1 := by decide
    rw [di_sub (by omega) (by omega), h1, e1]
  rw [Int32.le_iff_toInt_le, Int32.le_iff_toInt_le, e]
  have e0 : (0 : Int32).toInt = 0 := by decide
  omega
theorem lg_jm {j : Int32} {q : Nat} (hq : q < 100) : (0 ≤ j ∧ j ≤ nI q - 1) ↔ (0 ≤ j ∧ j < nI q) := by
  have e : (nI q - 1).toInt = (q : Int) - 1 := by
    have h1 := dni_int (k := q) (by omega)
    have e1 : (1 : Int32).toInt = 1 := by decide
    rw [di_sub (by omega) (by omega), h1, e1]
  rw [Int32.le_iff_toInt_le, Int32.le_iff_toInt_le, Int32.lt_iff_toInt_lt, e, dni_int (by omega)]
  omega
set_option maxHeartbeats 2000000 in
theorem lM_lgm {mm n : Nat} (hm : mm ≤ 148) {vs : List Value} (hv : kMv ad n (nI mm) vs) (hT : xgT kI kJ cI tys) (hc : kW ad cI vs V L cw) (hq4 : ∀ kk, kk < mm → ∃ q : Nat, q < 100 ∧ V 204 kk = nI q) (k j w : Int32) : Met l (y_y xLgm) (y_ws ztb xLgm) (y_rm xLgm) (y_Pc znw b zcls D cw tys sz [.ref (ad 114), .int k, .int j, .int w]) (y_Q zcls D (fun cw' tys' rv => tys' = tys ∧ cw' = cw ∧ ∃ r, rv = some (.int r) ∧ lgQ mm k j w (V 204) (fun kk => lgw w (lgc2 (V 204 kk) j (L 206 kk))) r) cw sz) 0 0 (va_A cw sz) := by
  refine xMet (tb := ytb yw00) (mr := xLgm) yo_yr248 (fun x hx => by cases hx) (Nat.le_of_ble_eq_true rfl) ?_
  intro p e s m below meth c Q ls hsz hF hs hl kv ki
  have hl : lv_has ls 5 [(0, .ref (ad 114)), (1, .int k), (2, .int j), (3, .int w)] := hl
  generalize va_A cw sz = A at *
  refine lv_iload_n (k := 1) hF.1 hF.2.1 (y_dcd_ok (by decide +kernel)) rfl (lv_at hl 1 rfl) ?_
  refine lv_iconst (n := 0) (v := 0) hF.1 hF.2.1 (y_dcd_ok (by decide +kernel)) (by decide) ?_
  refine lv_aload_n (k := 0) hF.1 hF.2.1 (y_dcd_ok (by decide +kernel)) rfl (lv_at hl 0 rfl) ?_
  refine ggo (n := 8231) (index := 829) hF hs hc 114 (by decide) rfl 121 (by decide) (by decide +kernel) hv.h121 (by decide +kernel) ?_
  refine lv_iconst (n := 1) (v := 1) hF.1 hF.2.1 (y_dcd_ok (by decide +kernel)) (by decide) ?_
  refine lv_isub hF.1 hF.2.1 (y_dcd_ok (by decide +kernel)) ?_
  refine xcallS (As := [.int k, .int 0, .int (nI mm - 1)]) (rest := []) (n := 10077) (j := 347) hF hs hl.1 (cm := xIn) yo_ym97 (by decide) (by decide +kernel) (show _ = some 3 from by decide +kernel) (by decide +kernel) ⟨by decide, by decide⟩ ⟨rfl, rfl⟩ (Nat.le_of_ble_eq_true rfl) ⟨Nat.zero_le _, Nat.zero_le _⟩ (kM_in k 0 (nI mm - 1)) (fun H1 locs1 cw1 tys1 rv hs hX1 => ?_)
  obtain ⟨e1, e2, e3⟩ := hX1
  subst e1
  rw [e2, e3] at hs
  show W _ _ _ _ _ _ _ _ _ _ _ _ _ _ _ (F0 m 11 ls [.int (if 0 ≤ k ∧ k ≤ nI mm - 1 then 1 else 0)])
  refine lv_if_ne (off := 5) (tgt := 16) hF.1 hF.2.1 (y_dcd_ok (by decide +kernel)) (by decide) (fun hq => ?_) (fun hq => ?_)
  rotate_left
  · have hn : ¬ (0 ≤ k ∧ k ≤ nI mm - 1) := fun q => by
      rw [if_pos q] at hq
      exact absurd hq (by decide)
    refine lv_iconst (n := -1) (v := -1) hF.1 hF.2.1 (y_dcd_ok (by decide +kernel)) (by decide) ?_
    exact ki _ _ cw tys ls 15 _ .int rfl rfl (by decide +kernel) hs ⟨rfl, rfl, _, rfl, Or.inl ⟨fun q => hn ((lg_km hm).mpr q), rfl⟩⟩
  have hki : 0 ≤ k ∧ k ≤ nI mm - 1 := by
    by_cases q : 0 ≤ k ∧ k ≤ nI mm - 1
    · exact q
    · rw [if_neg q] at hq
      exact absurd rfl hq
  clear hq
  obtain ⟨kk, hkk, rfl⟩ := lg_nat hm ((lg_km hm).mp hki)
  have hk8 : kk < 400 := by omega
  obtain ⟨q4, hq4, eq4⟩ := hq4 kk hkk
  refine lv_iload_n (k := 3) hF.1 hF.2.1 (y_dcd_ok (by decide +kernel)) rfl (lv_at hl 3 rfl) ?_
  refine lv_iconst (n := 0) (v := 0) hF.1 hF.2.1 (y_dcd_ok (by decide +kernel)) (by decide) ?_
  refine lv_iconst (n := 2) (v := 2) hF.1 hF.2.1 (y_dcd_ok (by decide +kernel)) (by decide) ?_
  refine xcallS (As := [.int w, .int 0, .int 2]) (rest := []) (n := 10077) (j := 347) hF hs hl.1 (cm := xIn) yo_ym97 (by decide) (by decide +kernel) (show _ = some 3 from by decide +kernel) (by decide +kernel) ⟨by decide, by decide⟩ ⟨rfl, rfl⟩ (Nat.le_of_ble_eq_true rfl) ⟨Nat.zero_le _, Nat.zero_le _⟩ (kM_in w 0 2) (fun H1 locs1 cw1 tys1 rv hs hX1 => ?_)
  obtain ⟨e1, e2, e3⟩ := hX1
  subst e1
  rw [e2, e3] at hs
  show W _ _ _ _ _ _ _ _ _ _ _ _ _ _ _ (F0 m 22 ls [.int (if 0 ≤ w ∧ w ≤ 2 then 1 else 0)])
  refine lv_if_ne (off := 6) (tgt := 28) hF.1 hF.2.1 (y_dcd_ok (by decide +kernel)) (by decide) (fun hq => ?_) (fun hq => ?_)
  rotate_left
  · have hn : ¬ (0 ≤ w ∧ w ≤ 2) := fun q => by
      rw [if_pos q] at hq
      exact absurd hq (by decide)
    refine lv_bipush (n := -2) (v := -2) hF.1 hF.2.1 (y_dcd_ok (by decide +kernel)) (by decide) ?_
    exact ki _ _ cw tys ls 27 _ .int rfl rfl (by decide +kernel) hs ⟨rfl, rfl, _, rfl, Or.inr ⟨kk, hkk, rfl, (if_neg hn).symm⟩⟩
  have hw : 0 ≤ w ∧ w ≤ 2 := by
    by_cases q : 0 ≤ w ∧ w ≤ 2
    · exact q
    · rw [if_neg q] at hq
      exact absurd rfl hq
  clear hq
  refine lv_iload_n (k := 2) hF.1 hF.2.1 (y_dcd_ok (by decide +kernel)) rfl (lv_at hl 2 rfl) ?_
  refine lv_iconst (n := 0) (v := 0) hF.1 hF.2.1 (y_dcd_ok (by decide +kernel)) (by decide) ?_
  refine lv_aload_n (k := 0) hF.1 hF.2.1 (y_dcd_ok (by decide +kernel)) rfl (lv_at hl 0 rfl) ?_
  refine ggo (n := 8233) (index := 280) hF hs hc 114 (by decide) rfl 123 (by decide) (by decide +kernel) hv.h123 (by decide +kernel) ?_
  refine lv_iload_n (k := 1) hF.1 hF.2.1 (y_dcd_ok (by decide +kernel)) rfl (lv_at hl 1 rfl) ?_
  refine gald hF hs hT hc 204 400 (by decide) (by decide) hk8 (by decide +kernel) ?_
  refine lv_iconst (n := 1) (v := 1) hF.1 hF.2.1 (y_dcd_ok (by decide +kernel)) (by decide) ?_
  refine lv_isub hF.1 hF.2.1 (y_dcd_ok (by decide +kernel)) ?_
  refine xcallS (As := [.int j, .int 0, .int (V 204 kk - 1)]) (rest := []) (n := 10077) (j := 347) hF hs hl.1 (cm := xIn) yo_ym97 (by decide) (by decide +kernel) (show _ = some 3 from by decide +kernel) (by decide +kernel) ⟨by decide, by decide⟩ ⟨rfl, rfl⟩ (Nat.le_of_ble_eq_true rfl) ⟨Nat.zero_le _, Nat.zero_le _⟩ (kM_in j 0 (V 204 kk - 1)) (fun H1 locs1 cw1 tys1 rv hs hX1 => ?_)
  obtain ⟨e1, e2, e3⟩ := hX1
  subst e1
  rw [e2, e3] at hs
  show W _ _ _ _ _ _ _ _ _ _ _ _ _ _ _ (F0 m 41 ls [.int (if 0 ≤ j ∧ j ≤ V 204 kk - 1 then 1 else 0)])
  refine lv_if_ne (off := 6) (tgt := 47) hF.1 hF.2.1 (y_dcd_ok (by decide +kernel)) (by decide) (fun hq => ?_) (fun hq => ?_)
  rotate_left
  · have hn : ¬ (0 ≤ j ∧ j ≤ V 204 kk - 1) := fun q => by
      rw [if_pos q] at hq
      exact absurd hq (by decide)
    have hn9 : ¬ (0 ≤ j ∧ j < V 204 kk) := fun q => hn (by rw [eq4] at q ⊢; exact (lg_jm hq4).mpr q)
    refine lv_bipush (n := -9) (v := -9) hF.1 hF.2.1 (y_dcd_ok (by decide +kernel)) (by decide) ?_
    exact ki _ _ cw tys ls 46 _ .int rfl rfl (by decide +kernel) hs ⟨rfl, rfl, _, rfl, Or.inr ⟨kk, hkk, rfl, by unfold lgS; rw [if_pos hw, if_neg hn9]⟩⟩
  have hj : 0 ≤ j ∧ j ≤ V 204 kk - 1 := by
    by_cases q : 0 ≤ j ∧ j ≤ V 204 kk - 1
    · exact q
    · rw [if_neg q] at hq
      exact absurd rfl hq
  clear hq
  have hj : 0 ≤ j ∧ j < V 204 kk := by
    rw [eq4] at hj ⊢
    exact (lg_jm hq4).mp hj
  refine lv_aload_n (k := 0) hF.1 hF.2.1 (y_dcd_ok (by decide +kernel)) rfl (lv_at hl 0 rfl) ?_
  refine ggo (n := 8235) (index := 286) hF hs hc 114 (by decide) rfl 125 (by decide) (by decide +kernel) hv.h125 (by decide +kernel) ?_
  refine lv_iload_n (k := 1) hF.1 hF.2.1 (y_dcd_ok (by decide +kernel)) rfl (lv_at hl 1 rfl) ?_
  refine glald hF hs hT hc 206 400 (by decide) (by decide) hk8 (by decide +kernel) ?_
  refine lv_bipush (n := 10) (v := 10) hF.1 hF.2.1 (y_dcd_ok (by decide +kernel)) (by decide) ?_
  refine lv_aload_n (k := 0) hF.1 hF.2.1 (y_dcd_ok (by decide +kernel)) rfl (lv_at hl 0 rfl) ?_
  refine ggo (n := 8233) (index := 280) hF hs hc 114 (by decide) rfl 123 (by decide) (by decide +kernel) hv.h123 (by decide +kernel) ?_
  refine lv_iload_n (k := 1) hF.1 hF.2.1 (y_dcd_ok (by decide +kernel)) rfl (lv_at hl 1 rfl) ?_
  refine gald hF hs hT hc 204 400 (by decide) (by decide) hk8 (by decide +kernel) ?_
  refine lv_iconst (n := 1) (v := 1) hF.1 hF.2.1 (y_dcd_ok (by decide +kernel)) (by decide) ?_
  refine lv_isub hF.1 hF.2.1 (y_dcd_ok (by decide +kernel)) ?_
  refine lv_iload_n (k := 2) hF.1 hF.2.1 (y_dcd_ok (by decide +kernel)) rfl (lv_at hl 2 rfl) ?_
  refine lv_isub hF.1 hF.2.1 (y_dcd_ok (by decide +kernel)) ?_
  refine lv_imul hF.1 hF.2.1 (y_dcd_ok (by decide +kernel)) ?_
  refine lv_lshr hF.1 hF.2.1 (y_dcd_ok (by decide +kernel)) rfl ?_
  refine lv_ldc2 (own := "RailwayHouseModel") (index := 841) (v := 1023) hF.1 hF.2.1 hF.2.2.2.1 (hF.2.2.2.2.1 _ (z_w_ok (n := 12190) (by decide +kernel))) (y_dcd_ok (by decide +kernel)) ?_
  refine lv_land hF.1 hF.2.1 (y_dcd_ok (by decide +kernel)) ?_
  refine lv_l2i hF.1 hF.2.1 (y_dcd_ok (by decide +kernel)) rfl ?_
  refine lv_istore (nL := 5) (i := 4) hF.1 hF.2.1 (y_dcd_ok (by decide +kernel)) hl (by decide) rfl (fun ls hl => ?_)
  refine lv_iload_n (k := 3) hF.1 hF.2.1 (y_dcd_ok (by decide +kernel)) rfl (lv_at hl 4 rfl) ?_
  refine lv_if_ne (off := 11) (tgt := 86) hF.1 hF.2.1 (y_dcd_ok (by decide +kernel)) (by decide) (fun hq => ?_) (fun hq => ?_)
  rotate_left
  refine lv_iload (i := 4) hF.1 hF.2.1 (y_dcd_ok (by decide +kernel)) (lv_at hl 0 rfl) ?_
  refine lv_bipush (n := 6) (v := 6) hF.1 hF.2.1 (y_dcd_ok (by decide +kernel)) (by decide) ?_
  refine lv_ishr hF.1 hF.2.1 (y_dcd_ok (by decide +kernel)) ?_
  refine lv_goto (off := 23) (tgt := 106) hF.1 hF.2.1 (y_dcd_ok (by decide +kernel)) (by decide) ?_
  · exact ki _ _ cw tys ls 106 _ .int rfl rfl (by decide +kernel) hs ⟨rfl, rfl, _, rfl, Or.inr ⟨kk, hkk, rfl, by unfold lgS; rw [if_pos hw, if_pos hj]; exact (if_pos hq).symm⟩⟩
  have h0 : ¬ w = 0 := hq
  clear hq
  refine lv_iload_n (k := 3) hF.1 hF.2.1 (y_dcd_ok (by decide +kernel)) rfl (lv_at hl 4 rfl) ?_
  refine lv_iconst (n := 1) (v := 1) hF.1 hF.2.1 (y_dcd_ok (by decide +kernel)) (by decide) ?_
  refine lv_icmp_ne (off := 13) (tgt := 101) hF.1 hF.2.1 (y_dcd_ok (by decide +kernel)) (by decide) (fun hq => ?_) (fun hq => ?_)
  · have h1 : ¬ w = 1 := hq
    show W _ _ _ _ _ _ _ _ _ _ _ _ _ _ _ (F0 m 101 ls [])
    refine lv_iload (i := 4) hF.1 hF.2.1 (y_dcd_ok (by decide +kernel)) (lv_at hl 0 rfl) ?_
    refine lv_bipush (n := 7) (v := 7) hF.1 hF.2.1 (y_dcd_ok (by decide +kernel)) (by decide) ?_
    refine lv_iand hF.1 hF.2.1 (y_dcd_ok (by decide +kernel)) ?_
    exact ki _ _ cw tys ls 106 _ .int rfl rfl (by decide +kernel) hs ⟨rfl, rfl, _, rfl, Or.inr ⟨kk, hkk, rfl, by unfold lgS; rw [if_pos hw, if_pos hj]; exact ((if_neg h0).trans (if_neg h1)).symm⟩⟩
  have h1 : w = 1 := hq
  refine lv_iload (i := 4) hF.1 hF.2.1 (y_dcd_ok (by decide +kernel)) (lv_at hl 0 rfl) ?_
  refine lv_iconst (n := 3) (v := 3) hF.1 hF.2.1 (y_dcd_ok (by decide +kernel)) (by decide) ?_
  refine lv_ishr hF.1 hF.2.1 (y_dcd_ok (by decide +kernel)) ?_
  refine lv_bipush (n := 7) (v := 7) hF.1 hF.2.1 (y_dcd_ok (by decide +kernel)) (by decide) ?_
  refine lv_iand hF.1 hF.2.1 (y_dcd_ok (by decide +kernel)) ?_
  refine lv_goto (off := 8) (tgt := 106) hF.1 hF.2.1 (y_dcd_ok (by decide +kernel)) (by decide) ?_
  exact ki _ _ cw tys ls 106 _ .int rfl rfl (by decide +kernel) hs ⟨rfl, rfl, _, rfl, Or.inr ⟨kk, hkk, rfl, by unfold lgS; rw [if_pos hw, if_pos hj]; exact ((if_neg h0).trans (if_pos h1)).symm⟩⟩
end ZL
/-- both answer alike -/
theorem lgQ_eq {mm : Nat} (hm : mm ≤ 148) {k j w r r' : Int32} {M M' T T' : Nat → Int32} (h : lgQ mm k j w M T r) (h' : lgQ mm k j w M' T' r') (e : ∀ kk, kk < mm → M kk = M' kk ∧ T kk = T' kk) : r = r' := by
  have hno : ∀ kk, kk < mm → k = nI kk → 0 ≤ k.toInt ∧ k.toInt < mm := fun kk h1 h2 => by
    rw [h2, dni_int (by omega)]
    omega
  rcases h with ⟨h1, h2⟩ | ⟨kk, h1, h2, h3⟩
  · rcases h' with ⟨_, g2⟩ | ⟨kk, g1, g2, _⟩
    · rw [h2, g2]
    · exact absurd (hno kk g1 g2) h1
  · rcases h' with ⟨g1, _⟩ | ⟨kk', g1, g2, g3⟩
    · exact absurd (hno kk h1 h2) g1
    · have ek : kk = kk' := dni_injb (by omega) (by omega) (h2.symm.trans g2)
      subst ek
      rw [h3, g3, (e kk h1).1, (e kk h1).2]
