-- journey on both sides
abbrev xIn : yMR := xmr ⟨"RailwayHouseModel", "in", "(III)Z"⟩ prog_14_method_1_code 3 (some .boolean) ⟨1, 0, 0, 60⟩ 112
abbrev xWit : yMR := xmr ⟨"RailwayHouse", "isWithin", "(III)Z"⟩ prog_1_method_60_code 3 (some .boolean) ⟨1, 0, 0, 60⟩ 111
abbrev xSta : yMR := xmr ⟨"RailwayHouse", "isStation", "(I)Z"⟩ prog_1_method_53_code 1 (some .boolean) ⟨1, 0, 0, 60⟩ 111
abbrev xJom : yMR := xmr ⟨"RailwayHouseModel", "journey", "(III)I"⟩ prog_14_method_155_code 6 (some .int) ⟨5, 0, 0, 167⟩ 12
abbrev xJoc : yMR := xmr ⟨"RailwayHouse", "journey", "(III)I"⟩ prog_1_method_46_code 4 (some .int) ⟨5, 0, 0, 172⟩ 11
section ZE
variable {l : Launch} {D : va_G} {b : Nat → Nat} {cw : va_W} {tys : List (ClassId × FieldType)} {sz : Nat} {ad : Nat → Nat} {cI : Nat → ClassId} {V : Nat → Nat → Int32} {L : Nat → Nat → Int64}
theorem kM_in (x y z : Int32) : Met l (y_y xIn) (y_ws ztb xIn) (y_rm xIn) (y_Pc znw b zcls D cw tys sz [.int x, .int y, .int z]) (y_Q zcls D (fun cw' tys' rv => rv = some (.int (if y ≤ x ∧ x ≤ z then 1 else 0)) ∧ tys' = tys ∧ cw' = cw) cw sz) 0 0 (va_A cw sz) := by
  refine xMet (tb := ytb yw00) (mr := xIn) yo_ym97 (fun x hx => by cases hx) (Nat.le_of_ble_eq_true rfl) ?_
  intro p e s m below meth c Q ls hsz hF hs hl kv ki
  have hl : lv_has ls 3 [(0, .int x), (1, .int y), (2, .int z)] := hl
  refine lv_iload_n (k := 0) hF.1 hF.2.1 (y_dcd_ok (by decide +kernel)) rfl (lv_at hl 0 rfl) ?_
  refine lv_iload_n (k := 1) hF.1 hF.2.1 (y_dcd_ok (by decide +kernel)) rfl (lv_at hl 1 rfl) ?_
  refine lv_icmp_lt (off := 12) (tgt := 14) hF.1 hF.2.1 (y_dcd_ok (by decide +kernel)) (by decide) (fun hq => ?_) (fun hq => ?_)
  · show W _ _ _ _ _ _ _ _ _ _ _ _ _ _ _ (F0 m 14 ls [])
    refine lv_iconst (n := 0) (v := 0) hF.1 hF.2.1 (y_dcd_ok (by decide +kernel)) (by decide) ?_
    exact ki _ _ cw tys ls 15 _ .boolean rfl rfl (by decide +kernel) hs ⟨by rw [if_neg (fun q => absurd q.1 (Int32.not_le.mpr hq))], rfl, rfl⟩
  have h1 := Int32.not_lt.mp hq
  refine lv_iload_n (k := 0) hF.1 hF.2.1 (y_dcd_ok (by decide +kernel)) rfl (lv_at hl 0 rfl) ?_
  refine lv_iload_n (k := 2) hF.1 hF.2.1 (y_dcd_ok (by decide +kernel)) rfl (lv_at hl 2 rfl) ?_
  refine lv_icmp_gt (off := 7) (tgt := 14) hF.1 hF.2.1 (y_dcd_ok (by decide +kernel)) (by decide) (fun hq => ?_) (fun hq => ?_)
  · show W _ _ _ _ _ _ _ _ _ _ _ _ _ _ _ (F0 m 14 ls [])
    refine lv_iconst (n := 0) (v := 0) hF.1 hF.2.1 (y_dcd_ok (by decide +kernel)) (by decide) ?_
    exact ki _ _ cw tys ls 15 _ .boolean rfl rfl (by decide +kernel) hs ⟨by rw [if_neg (fun q => absurd q.2 (Int32.not_le.mpr hq))], rfl, rfl⟩
  have h2 := Int32.not_lt.mp hq
  refine lv_iconst (n := 1) (v := 1) hF.1 hF.2.1 (y_dcd_ok (by decide +kernel)) (by decide) ?_
  refine lv_goto (off := 4) (tgt := 15) hF.1 hF.2.1 (y_dcd_ok (by decide +kernel)) (by decide) ?_
  exact ki _ _ cw tys ls 15 _ .boolean rfl rfl (by decide +kernel) hs ⟨by rw [if_pos ⟨h1, h2⟩], rfl, rfl⟩
theorem jM_wit (x y z : Int32) : Met l (y_y xWit) (y_ws ztb xWit) (y_rm xWit) (y_Pc znw b zcls D cw tys sz [.int x, .int y, .int z]) (y_Q zcls D (fun cw' tys' rv => rv = some (.int (if y ≤ x ∧ x ≤ z then 1 else 0)) ∧ tys' = tys ∧ cw' = cw) cw sz) 0 0 (va_A cw sz) := by
  refine xMet (tb := ytb yw00) (mr := xWit) yo_ym85 (fun x hx => by cases hx) (Nat.le_of_ble_eq_true rfl) ?_
  intro p e s m below meth c Q ls hsz hF hs hl kv ki
  have hl : lv_has ls 3 [(0, .int x), (1, .int y), (2, .int z)] := hl
  refine lv_iload_n (k := 0) hF.1 hF.2.1 (y_dcd_ok (by decide +kernel)) rfl (lv_at hl 0 rfl) ?_
  refine lv_iload_n (k := 1) hF.1 hF.2.1 (y_dcd_ok (by decide +kernel)) rfl (lv_at hl 1 rfl) ?_
  refine lv_icmp_lt (off := 12) (tgt := 14) hF.1 hF.2.1 (y_dcd_ok (by decide +kernel)) (by decide) (fun hq => ?_) (fun hq => ?_)
  · show W _ _ _ _ _ _ _ _ _ _ _ _ _ _ _ (F0 m 14 ls [])
    refine lv_iconst (n := 0) (v := 0) hF.1 hF.2.1 (y_dcd_ok (by decide +kernel)) (by decide) ?_
    exact ki _ _ cw tys ls 15 _ .boolean rfl rfl (by decide +kernel) hs ⟨by rw [if_neg (fun q => absurd q.1 (Int32.not_le.mpr hq))], rfl, rfl⟩
  have h1 := Int32.not_lt.mp hq
  refine lv_iload_n (k := 0) hF.1 hF.2.1 (y_dcd_ok (by decide +kernel)) rfl (lv_at hl 0 rfl) ?_
  refine lv_iload_n (k := 2) hF.1 hF.2.1 (y_dcd_ok (by decide +kernel)) rfl (lv_at hl 2 rfl) ?_
  refine lv_icmp_gt (off := 7) (tgt := 14) hF.1 hF.2.1 (y_dcd_ok (by decide +kernel)) (by decide) (fun hq => ?_) (fun hq => ?_)
  · show W _ _ _ _ _ _ _ _ _ _ _ _ _ _ _ (F0 m 14 ls [])
    refine lv_iconst (n := 0) (v := 0) hF.1 hF.2.1 (y_dcd_ok (by decide +kernel)) (by decide) ?_
    exact ki _ _ cw tys ls 15 _ .boolean rfl rfl (by decide +kernel) hs ⟨by rw [if_neg (fun q => absurd q.2 (Int32.not_le.mpr hq))], rfl, rfl⟩
  have h2 := Int32.not_lt.mp hq
  refine lv_iconst (n := 1) (v := 1) hF.1 hF.2.1 (y_dcd_ok (by decide +kernel)) (by decide) ?_
  refine lv_goto (off := 4) (tgt := 15) hF.1 hF.2.1 (y_dcd_ok (by decide +kernel)) (by decide) ?_
  exact ki _ _ cw tys ls 15 _ .boolean rfl rfl (by decide +kernel) hs ⟨by rw [if_pos ⟨h1, h2⟩], rfl, rfl⟩
theorem jM_sta (x : Int32) : Met l (y_y xSta) (y_ws ztb xSta) (y_rm xSta) (y_Pc znw b zcls D cw tys sz [.int x]) (y_Q zcls D (fun cw' tys' rv => rv = some (.int (if 0 ≤ x ∧ x ≤ 7 then 1 else 0)) ∧ tys' = tys ∧ cw' = cw) cw sz) 0 0 (va_A cw sz) := by
  refine xMet (tb := ytb yw00) (mr := xSta) yo_ym84 (fun x hx => by cases hx) (Nat.le_of_ble_eq_true rfl) ?_
  intro p e s m below meth c Q ls hsz hF hs hl kv ki
  have hl : lv_has ls 1 [(0, .int x)] := hl
  have e7 : (7 : Int32).toInt = 7 := by decide
  have e8 : (8 : Int32).toInt = 8 := by decide
  refine lv_iload_n (k := 0) hF.1 hF.2.1 (y_dcd_ok (by decide +kernel)) rfl (lv_at hl 0 rfl) ?_
  refine lv_if_lt (off := 13) (tgt := 14) hF.1 hF.2.1 (y_dcd_ok (by decide +kernel)) (by decide) (fun hq => ?_) (fun hq => ?_)
  · show W _ _ _ _ _ _ _ _ _ _ _ _ _ _ _ (F0 m 14 ls [])
    refine lv_iconst (n := 0) (v := 0) hF.1 hF.2.1 (y_dcd_ok (by decide +kernel)) (by decide) ?_
    exact ki _ _ cw tys ls 15 _ .boolean rfl rfl (by decide +kernel) hs ⟨by rw [if_neg (fun q => absurd q.1 (Int32.not_le.mpr hq))], rfl, rfl⟩
  have h1 := Int32.not_lt.mp hq
  refine lv_iload_n (k := 0) hF.1 hF.2.1 (y_dcd_ok (by decide +kernel)) rfl (lv_at hl 0 rfl) ?_
  refine lv_bipush (n := 8) (v := 8) hF.1 hF.2.1 (y_dcd_ok (by decide +kernel)) (by decide) ?_
  refine lv_icmp_ge (off := 7) (tgt := 14) hF.1 hF.2.1 (y_dcd_ok (by decide +kernel)) (by decide) (fun hq => ?_) (fun hq => ?_)
  · show W _ _ _ _ _ _ _ _ _ _ _ _ _ _ _ (F0 m 14 ls [])
    refine lv_iconst (n := 0) (v := 0) hF.1 hF.2.1 (y_dcd_ok (by decide +kernel)) (by decide) ?_
    have hn : ¬ (0 ≤ x ∧ x ≤ 7) := fun q => by
      have q1 := Int32.le_iff_toInt_le.mp q.2
      have q2 := Int32.le_iff_toInt_le.mp hq
      omega
    exact ki _ _ cw tys ls 15 _ .boolean rfl rfl (by decide +kernel) hs ⟨by rw [if_neg hn], rfl, rfl⟩
  have h2 : x ≤ 7 := by
    have q2 : ¬ (8 : Int32).toInt ≤ x.toInt := fun z => hq (Int32.le_iff_toInt_le.mpr z)
    exact Int32.le_iff_toInt_le.mpr (by omega)
  refine lv_iconst (n := 1) (v := 1) hF.1 hF.2.1 (y_dcd_ok (by decide +kernel)) (by decide) ?_
  refine lv_goto (off := 4) (tgt := 15) hF.1 hF.2.1 (y_dcd_ok (by decide +kernel)) (by decide) ?_
  exact ki _ _ cw tys ls 15 _ .boolean rfl rfl (by decide +kernel) hs ⟨by rw [if_pos ⟨h1, h2⟩], rfl, rfl⟩
/-- what journey takes -/
def jac (x y z : Int32) : Prop := ((0 ≤ x ∧ x ≤ 7) ∧ 0 ≤ y ∧ y ≤ 7) ∧ (0 ≤ z ∧ z ≤ 10000) ∧ ¬ x = y
/-- what it answers, if it does not -/
def jrf (x y : Int32) : Int32 := if (0 ≤ x ∧ x ≤ 7) ∧ 0 ≤ y ∧ y ≤ 7 then -2 else -1
theorem jnat {x : Int32} {n : Nat} (hn : n < 100000) (h : 0 ≤ x ∧ x ≤ nI n) : ∃ k, k ≤ n ∧ x = nI k := by
  have h1 := Int32.le_iff_toInt_le.mp h.1
  have h2 := Int32.le_iff_toInt_le.mp h.2
  have e0 : (0 : Int32).toInt = 0 := by decide
  rw [dni_int (by omega)] at h2
  refine ⟨x.toInt.toNat, by omega, ?_⟩
  apply Int32.toInt_inj.mp
  rw [dni_int (by omega)]
  omega
set_option maxHeartbeats 2000000 in
theorem jM_jou {op ho he : Int32} {X : jT} (hX : jVc X V) (hzn : jX X) (hT : xgT jI jJ cI tys) (hc : jW ad cI op 98 100 (nI X.n) ho he V L cw) {a0 : Nat} {vs0 : List Value} (h0 : cw[0]? = some (a0, .inr (11, vs0))) (h7 : vs0[7]? = some (.ref (ad 93))) (x y z : Int32) : Met l (y_y xJoc) (y_ws ztb xJoc) (y_rm xJoc) (y_Pc znw b zcls D cw tys sz [.ref a0, .int x, .int y, .int z]) (y_Q zcls D (fun cw' tys' rv => tys' = tys ∧ ((¬ jac x y z ∧ rv = some (.int (jrf x y)) ∧ cw' = cw) ∨ (jac x y z ∧ ∃ fr to wh, x = nI fr ∧ y = nI to ∧ z = nI wh ∧ (fr ≤ 7 ∧ to ≤ 7 ∧ wh ≤ 10000) ∧ ∃ K V' L', rv = some (.int (nI K.length)) ∧ jW ad cI (nI K.length) 98 100 (nI X.n) ho he V' L' cw' ∧ jro K V' L' ∧ jop (jcm X fr wh to 0) K))) cw sz) 0 0 (va_A cw sz) := by
  refine xMet (tb := ytb yw00) (mr := xJoc) yo_yr145 (fun x hx => by cases hx) (Nat.le_of_ble_eq_true rfl) ?_
  intro p e s m below meth c Q ls hsz hF hs hl kv ki
  have hl : lv_has ls 4 [(0, .ref a0), (1, .int x), (2, .int y), (3, .int z)] := hl
  generalize va_A cw sz = A at *
  have no1 : ¬ ((0 ≤ x ∧ x ≤ 7) ∧ 0 ≤ y ∧ y ≤ 7) → ∀ (H : Heap) (locs : List Loc) (ls : Array Slot), xs D s A H locs cw tys → W p l e (y_rm xJoc) s m [Value.ref a0, .int x, .int y, .int z].toArray below meth c H locs 0 0 Q (F0 m 14 ls []) := fun hn H locs ls hs => by
    refine lv_iconst (n := -1) (v := -1) hF.1 hF.2.1 (y_dcd_ok (by decide +kernel)) (by decide) ?_
    exact ki _ _ cw tys ls 15 _ .int rfl rfl (by decide +kernel) hs ⟨rfl, Or.inl ⟨fun q => hn q.1, by rw [show jrf x y = -1 from if_neg hn], rfl⟩⟩
  have no2 : ((0 ≤ x ∧ x ≤ 7) ∧ 0 ≤ y ∧ y ≤ 7) → ¬ ((0 ≤ z ∧ z ≤ 10000) ∧ ¬ x = y) → ∀ (H : Heap) (locs : List Loc) (ls : Array Slot), xs D s A H locs cw tys → W p l e (y_rm xJoc) s m [Value.ref a0, .int x, .int y, .int z].toArray below meth c H locs 0 0 Q (F0 m 32 ls []) := fun hy hn H locs ls hs => by
    refine lv_bipush (n := -2) (v := -2) hF.1 hF.2.1 (y_dcd_ok (by decide +kernel)) (by decide) ?_
    exact ki _ _ cw tys ls 34 _ .int rfl rfl (by decide +kernel) hs ⟨rfl, Or.inl ⟨fun q => hn q.2, by rw [show jrf x y = -2 from if_pos hy], rfl⟩⟩
  refine lv_iload_n (k := 1) hF.1 hF.2.1 (y_dcd_ok (by decide +kernel)) rfl (lv_at hl 1 rfl) ?_
  refine xcallS (As := [.int x]) (rest := []) (n := 7123) (j := 351) hF hs hl.1 (cm := xSta) yo_ym84 (by decide) (by decide +kernel) (show _ = some 1 from by decide +kernel) (by decide +kernel) ⟨by decide, by decide⟩ ⟨rfl, rfl⟩ (Nat.le_of_ble_eq_true rfl) ⟨Nat.zero_le _, Nat.zero_le _⟩ (jM_sta x) (fun H1 locs1 cw1 tys1 rv hs hX1 => ?_)
  obtain ⟨e1, e2, e3⟩ := hX1
  subst e1
  rw [e2, e3] at hs
  show W _ _ _ _ _ _ _ _ _ _ _ _ _ _ _ (F0 m 4 ls [.int (if 0 ≤ x ∧ x ≤ 7 then 1 else 0)])
  refine lv_if_eq (off := 10) (tgt := 14) hF.1 hF.2.1 (y_dcd_ok (by decide +kernel)) (by decide) (fun hq => ?_) (fun hq => ?_)
  · have hn : ¬ (0 ≤ x ∧ x ≤ 7) := fun q => by
      rw [if_pos q] at hq
      exact absurd hq (by decide)
    exact no1 (fun q => hn q.1) _ _ ls hs
  have hx : 0 ≤ x ∧ x ≤ 7 := by
    by_cases q : 0 ≤ x ∧ x ≤ 7
    · exact q
    · rw [if_neg q] at hq
      exact absurd rfl hq
  clear hq
  refine lv_iload_n (k := 2) hF.1 hF.2.1 (y_dcd_ok (by decide +kernel)) rfl (lv_at hl 2 rfl) ?_
  refine xcallS (As := [.int y]) (rest := []) (n := 7123) (j := 351) hF hs hl.1 (cm := xSta) yo_ym84 (by decide) (by decide +kernel) (show _ = some 1 from by decide +kernel) (by decide +kernel) ⟨by decide, by decide⟩ ⟨rfl, rfl⟩ (Nat.le_of_ble_eq_true rfl) ⟨Nat.zero_le _, Nat.zero_le _⟩ (jM_sta y) (fun H1 locs1 cw1 tys1 rv hs hX1 => ?_)
  obtain ⟨e1, e2, e3⟩ := hX1
  subst e1
  rw [e2, e3] at hs
  show W _ _ _ _ _ _ _ _ _ _ _ _ _ _ _ (F0 m 11 ls [.int (if 0 ≤ y ∧ y ≤ 7 then 1 else 0)])
  refine lv_if_ne (off := 5) (tgt := 16) hF.1 hF.2.1 (y_dcd_ok (by decide +kernel)) (by decide) (fun hq => ?_) (fun hq => ?_)
  rotate_left
  · have hn : ¬ (0 ≤ y ∧ y ≤ 7) := fun q => by
      rw [if_pos q] at hq
      exact absurd hq (by decide)
    exact no1 (fun q => hn q.2) _ _ ls hs
  have hy : 0 ≤ y ∧ y ≤ 7 := by
    by_cases q : 0 ≤ y ∧ y ≤ 7
    · exact q
    · rw [if_neg q] at hq
      exact absurd rfl hq
  clear hq
  refine lv_iload_n (k := 3) hF.1 hF.2.1 (y_dcd_ok (by decide +kernel)) rfl (lv_at hl 3 rfl) ?_
  refine lv_iconst (n := 0) (v := 0) hF.1 hF.2.1 (y_dcd_ok (by decide +kernel)) (by decide) ?_
  refine lv_sipush (n := 10000) (v := 10000) hF.1 hF.2.1 (y_dcd_ok (by decide +kernel)) (by decide) ?_
  refine xcallS (As := [.int z, .int 0, .int 10000]) (rest := []) (n := 5237) (j := 242) hF hs hl.1 (cm := xWit) yo_ym85 (by decide) (by decide +kernel) (show _ = some 3 from by decide +kernel) (by decide +kernel) ⟨by decide, by decide⟩ ⟨rfl, rfl⟩ (Nat.le_of_ble_eq_true rfl) ⟨Nat.zero_le _, Nat.zero_le _⟩ (jM_wit z 0 10000) (fun H1 locs1 cw1 tys1 rv hs hX1 => ?_)
  obtain ⟨e1, e2, e3⟩ := hX1
  subst e1
  rw [e2, e3] at hs
  show W _ _ _ _ _ _ _ _ _ _ _ _ _ _ _ (F0 m 24 ls [.int (if 0 ≤ z ∧ z ≤ 10000 then 1 else 0)])
  refine lv_if_eq (off := 8) (tgt := 32) hF.1 hF.2.1 (y_dcd_ok (by decide +kernel)) (by decide) (fun hq => ?_) (fun hq => ?_)
  · have hn : ¬ (0 ≤ z ∧ z ≤ 10000) := fun q => by
      rw [if_pos q] at hq
      exact absurd hq (by decide)
    exact no2 ⟨hx, hy⟩ (fun q => hn q.1) _ _ ls hs
  have hz : 0 ≤ z ∧ z ≤ 10000 := by
    by_cases q : 0 ≤ z ∧ z ≤ 10000
    · exact q
    · rw [if_neg q] at hq
      exact absurd rfl hq
  clear hq
  refine lv_iload_n (k := 1) hF.1 hF.2.1 (y_dcd_ok (by decide +kernel)) rfl (lv_at hl 1 rfl) ?_
  refine lv_iload_n (k := 2) hF.1 hF.2.1 (y_dcd_ok (by decide +kernel)) rfl (lv_at hl 2 rfl) ?_
  refine lv_icmp_ne (off := 6) (tgt := 35) hF.1 hF.2.1 (y_dcd_ok (by decide +kernel)) (by decide) (fun hq => ?_) (fun hq => ?_)
  rotate_left
  · exact no2 ⟨hx, hy⟩ (fun q => q.2 hq) _ _ ls hs
  have hxy : ¬ x = y := hq
  clear hq
  obtain ⟨fr, hfr, rfl⟩ := jnat (n := 7) (by decide) hx
  obtain ⟨to, hto, rfl⟩ := jnat (n := 7) (by decide) hy
  obtain ⟨wh, hwh, rfl⟩ := jnat (n := 10000) (by decide) hz
  refine lv_aload_n (k := 0) hF.1 hF.2.1 (y_dcd_ok (by decide +kernel)) rfl (lv_at hl 0 rfl) ?_
  refine xget (n := 3139) (index := 67) hF hs h0 rfl 7 (by decide) (by decide +kernel) h7 (by decide +kernel) ?_
  refine lv_iload_n (k := 1) hF.1 hF.2.1 (y_dcd_ok (by decide +kernel)) rfl (lv_at hl 1 rfl) ?_
  refine lv_iload_n (k := 2) hF.1 hF.2.1 (y_dcd_ok (by decide +kernel)) rfl (lv_at hl 2 rfl) ?_
  refine lv_iload_n (k := 3) hF.1 hF.2.1 (y_dcd_ok (by decide +kernel)) rfl (lv_at hl 3 rfl) ?_
  refine xcallV (As := [.int _, .int _, .int _]) (rest := []) (n := 7154) (j := 379) hF hs hl.1 (hc.hO 93 (by decide)) (cm := xFiA) yo_yr20 rfl (by decide) (by decide +kernel) (show _ = some 3 from by decide +kernel) (by decide +kernel) ⟨by decide, by decide⟩ ⟨rfl, rfl⟩ (Nat.le_of_ble_eq_true rfl) ⟨Nat.zero_le _, Nat.zero_le _⟩ (jM_fiA hX hzn hT hc (show fr < 8 by omega) (show to < 8 by omega) hwh) (fun H1 locs1 cw1 tys1 rv hs hX1 => ?_)
  obtain ⟨e2, K, V', L', e1, c1, r1, o1⟩ := hX1
  subst e1
  rw [e2] at hs
  exact ki _ _ cw1 tys ls _ _ .int rfl rfl (by decide +kernel) hs ⟨rfl, Or.inr ⟨⟨⟨hx, hy⟩, hz, hxy⟩, fr, to, wh, rfl, rfl, rfl, ⟨hfr, hto, hwh⟩, K, V', L', rfl, c1, r1, o1⟩⟩
theorem kns_tm {B : jB} {g : Nat} {V V1 : Nat → Nat → Int32} {L L1 : Nat → Nat → Int64} (h : kns V V1 L L1) (hB : ktm B g (V 201) (L 202)) : ktm B g (V1 201) (L1 202) := by
  rw [h.1 201 (by decide), h.2 202 (by decide)]
  exact hB
theorem kVc_ns {X : jT} {V V1 : Nat → Nat → Int32} {L L1 : Nat → Nat → Int64} (h : kns V V1 L L1) (hX : kVc X V) : kVc X V1 := by
  unfold kVc
  rw [h.1 197 (by decide), h.1 198 (by decide), h.1 199 (by decide), h.1 200 (by decide), h.1 194 (by decide), h.1 195 (by decide)]
  exact hX
theorem kns_tr {V V1 V2 : Nat → Nat → Int32} {L L1 L2 : Nat → Nat → Int64} (h : kns V V1 L L1) (h' : kns V1 V2 L1 L2) : kns V V2 L L2 := ⟨fun q hq => (h'.1 q hq).trans (h.1 q hq), fun q hq => (h'.2 q hq).trans (h.2 q hq)⟩
set_option maxHeartbeats 8000000 in
theorem kM_jou {op : Int32} {vs : List Value} {X : jT} (hv : kMv ad X.n op vs) (hX : kVc X V) (hzn : jX X) (hT : xgT kI kJ cI tys) (hc : kW ad cI vs V L cw) (x y z : Int32) : Met l (y_y xJom) (y_ws ztb xJom) (y_rm xJom) (y_Pc znw b zcls D cw tys sz [.ref (ad 114), .int x, .int y, .int z]) (y_Q zcls D (fun cw' tys' rv => tys' = tys ∧ ((¬ jac x y z ∧ rv = some (.int (jrf x y)) ∧ cw' = cw) ∨ (jac x y z ∧ ∃ fr to wh, x = nI fr ∧ y = nI to ∧ z = nI wh ∧ (fr ≤ 7 ∧ to ≤ 7 ∧ wh ≤ 10000) ∧ ∃ K V' L' vs', rv = some (.int (nI K.length)) ∧ kW ad cI vs' V' L' cw' ∧ vs'[121]? = some (.int (nI K.length)) ∧ kro K V' L' ∧ jop (jpm X fr wh to 0) K))) cw sz) 0 0 (va_A cw sz) := by
  refine xMet (tb := ytb yw00) (mr := xJom) yo_yr245 (fun x hx => by cases hx) (Nat.le_of_ble_eq_true rfl) ?_
  intro p e s m below meth c Q ls hsz hF hs hl kv ki
  have hl : lv_has ls 6 [(0, .ref (ad 114)), (1, .int x), (2, .int y), (3, .int z)] := hl
  generalize va_A cw sz = A at *
  have no1 : ¬ ((0 ≤ x ∧ x ≤ 7) ∧ 0 ≤ y ∧ y ≤ 7) → ∀ (H : Heap) (locs : List Loc) (ls : Array Slot), xs D s A H locs cw tys → W p l e (y_rm xJom) s m [Value.ref (ad 114), .int x, .int y, .int z].toArray below meth c H locs 0 0 Q (F0 m 20 ls []) := fun hn H locs ls hs => by
    refine lv_iconst (n := -1) (v := -1) hF.1 hF.2.1 (y_dcd_ok (by decide +kernel)) (by decide) ?_
    exact ki _ _ cw tys ls 21 _ .int rfl rfl (by decide +kernel) hs ⟨rfl, Or.inl ⟨fun q => hn q.1, by rw [show jrf x y = -1 from if_neg hn], rfl⟩⟩
  have no2 : ((0 ≤ x ∧ x ≤ 7) ∧ 0 ≤ y ∧ y ≤ 7) → ¬ ((0 ≤ z ∧ z ≤ 10000) ∧ ¬ x = y) → ∀ (H : Heap) (locs : List Loc) (ls : Array Slot), xs D s A H locs cw tys → W p l e (y_rm xJom) s m [Value.ref (ad 114), .int x, .int y, .int z].toArray below meth c H locs 0 0 Q (F0 m 38 ls []) := fun hy hn H locs ls hs => by
    refine lv_bipush (n := -2) (v := -2) hF.1 hF.2.1 (y_dcd_ok (by decide +kernel)) (by decide) ?_
    exact ki _ _ cw tys ls 40 _ .int rfl rfl (by decide +kernel) hs ⟨rfl, Or.inl ⟨fun q => hn q.2, by rw [show jrf x y = -2 from if_pos hy], rfl⟩⟩
  refine lv_iload_n (k := 1) hF.1 hF.2.1 (y_dcd_ok (by decide +kernel)) rfl (lv_at hl 1 rfl) ?_
  refine lv_iconst (n := 0) (v := 0) hF.1 hF.2.1 (y_dcd_ok (by decide +kernel)) (by decide) ?_
  refine lv_bipush (n := 7) (v := 7) hF.1 hF.2.1 (y_dcd_ok (by decide +kernel)) (by decide) ?_
  refine xcallS (As := [.int x, .int 0, .int 7]) (rest := []) (n := 10077) (j := 347) hF hs hl.1 (cm := xIn) yo_ym97 (by decide) (by decide +kernel) (show _ = some 3 from by decide +kernel) (by decide +kernel) ⟨by decide, by decide⟩ ⟨rfl, rfl⟩ (Nat.le_of_ble_eq_true rfl) ⟨Nat.zero_le _, Nat.zero_le _⟩ (kM_in x 0 7) (fun H1 locs1 cw1 tys1 rv hs hX1 => ?_)
  obtain ⟨e1, e2, e3⟩ := hX1
  subst e1
  rw [e2, e3] at hs
  show W _ _ _ _ _ _ _ _ _ _ _ _ _ _ _ (F0 m 7 ls [.int (if 0 ≤ x ∧ x ≤ 7 then 1 else 0)])
  refine lv_if_eq (off := 13) (tgt := 20) hF.1 hF.2.1 (y_dcd_ok (by decide +kernel)) (by decide) (fun hq => ?_) (fun hq => ?_)
  · have hn : ¬ (0 ≤ x ∧ x ≤ 7) := fun q => by
      rw [if_pos q] at hq
      exact absurd hq (by decide)
    exact no1 (fun q => hn q.1) _ _ ls hs
  have hx : 0 ≤ x ∧ x ≤ 7 := by
    by_cases q : 0 ≤ x ∧ x ≤ 7
    · exact q
    · rw [if_neg q] at hq
      exact absurd rfl hq
  clear hq
  refine lv_iload_n (k := 2) hF.1 hF.2.1 (y_dcd_ok (by decide +kernel)) rfl (lv_at hl 2 rfl) ?_
  refine lv_iconst (n := 0) (v := 0) hF.1 hF.2.1 (y_dcd_ok (by decide +kernel)) (by decide) ?_
  refine lv_bipush (n := 7) (v := 7) hF.1 hF.2.1 (y_dcd_ok (by decide +kernel)) (by decide) ?_
  refine xcallS (As := [.int y, .int 0, .int 7]) (rest := []) (n := 10077) (j := 347) hF hs hl.1 (cm := xIn) yo_ym97 (by decide) (by decide +kernel) (show _ = some 3 from by decide +kernel) (by decide +kernel) ⟨by decide, by decide⟩ ⟨rfl, rfl⟩ (Nat.le_of_ble_eq_true rfl) ⟨Nat.zero_le _, Nat.zero_le _⟩ (kM_in y 0 7) (fun H1 locs1 cw1 tys1 rv hs hX1 => ?_)
  obtain ⟨e1, e2, e3⟩ := hX1
  subst e1
  rw [e2, e3] at hs
  show W _ _ _ _ _ _ _ _ _ _ _ _ _ _ _ (F0 m 17 ls [.int (if 0 ≤ y ∧ y ≤ 7 then 1 else 0)])
  refine lv_if_ne (off := 5) (tgt := 22) hF.1 hF.2.1 (y_dcd_ok (by decide +kernel)) (by decide) (fun hq => ?_) (fun hq => ?_)
  rotate_left
  · have hn : ¬ (0 ≤ y ∧ y ≤ 7) := fun q => by
      rw [if_pos q] at hq
      exact absurd hq (by decide)
    exact no1 (fun q => hn q.2) _ _ ls hs
  have hy : 0 ≤ y ∧ y ≤ 7 := by
    by_cases q : 0 ≤ y ∧ y ≤ 7
    · exact q
    · rw [if_neg q] at hq
      exact absurd rfl hq
  clear hq
  refine lv_iload_n (k := 3) hF.1 hF.2.1 (y_dcd_ok (by decide +kernel)) rfl (lv_at hl 3 rfl) ?_
  refine lv_iconst (n := 0) (v := 0) hF.1 hF.2.1 (y_dcd_ok (by decide +kernel)) (by decide) ?_
  refine lv_sipush (n := 10000) (v := 10000) hF.1 hF.2.1 (y_dcd_ok (by decide +kernel)) (by decide) ?_
  refine xcallS (As := [.int z, .int 0, .int 10000]) (rest := []) (n := 10077) (j := 347) hF hs hl.1 (cm := xIn) yo_ym97 (by decide) (by decide +kernel) (show _ = some 3 from by decide +kernel) (by decide +kernel) ⟨by decide, by decide⟩ ⟨rfl, rfl⟩ (Nat.le_of_ble_eq_true rfl) ⟨Nat.zero_le _, Nat.zero_le _⟩ (kM_in z 0 10000) (fun H1 locs1 cw1 tys1 rv hs hX1 => ?_)
  obtain ⟨e1, e2, e3⟩ := hX1
  subst e1
  rw [e2, e3] at hs
  show W _ _ _ _ _ _ _ _ _ _ _ _ _ _ _ (F0 m 30 ls [.int (if 0 ≤ z ∧ z ≤ 10000 then 1 else 0)])
  refine lv_if_eq (off := 8) (tgt := 38) hF.1 hF.2.1 (y_dcd_ok (by decide +kernel)) (by decide) (fun hq => ?_) (fun hq => ?_)
  · have hn : ¬ (0 ≤ z ∧ z ≤ 10000) := fun q => by
      rw [if_pos q] at hq
      exact absurd hq (by decide)
    exact no2 ⟨hx, hy⟩ (fun q => hn q.1) _ _ ls hs
  have hz : 0 ≤ z ∧ z ≤ 10000 := by
    by_cases q : 0 ≤ z ∧ z ≤ 10000
    · exact q
    · rw [if_neg q] at hq
      exact absurd rfl hq
  clear hq
  refine lv_iload_n (k := 1) hF.1 hF.2.1 (y_dcd_ok (by decide +kernel)) rfl (lv_at hl 1 rfl) ?_
  refine lv_iload_n (k := 2) hF.1 hF.2.1 (y_dcd_ok (by decide +kernel)) rfl (lv_at hl 2 rfl) ?_
  refine lv_icmp_ne (off := 6) (tgt := 41) hF.1 hF.2.1 (y_dcd_ok (by decide +kernel)) (by decide) (fun hq => ?_) (fun hq => ?_)
  rotate_left
  · exact no2 ⟨hx, hy⟩ (fun q => q.2 hq) _ _ ls hs
  have hxy : ¬ x = y := hq
  clear hq no1 no2
  obtain ⟨fr, hfr, rfl⟩ := jnat (n := 7) (by decide) hx
  obtain ⟨to, hto, rfl⟩ := jnat (n := 7) (by decide) hy
  obtain ⟨wh, hwh, rfl⟩ := jnat (n := 10000) (by decide) hz
  have hn := hX.n
  have hXX : jX X := hzn
  refine lv_aload_n (k := 0) hF.1 hF.2.1 (y_dcd_ok (by decide +kernel)) rfl (lv_at hl 0 rfl) ?_
  refine lv_iload_n (k := 1) hF.1 hF.2.1 (y_dcd_ok (by decide +kernel)) rfl (lv_at hl 1 rfl) ?_
  refine lv_iload_n (k := 3) hF.1 hF.2.1 (y_dcd_ok (by decide +kernel)) rfl (lv_at hl 3 rfl) ?_
  refine xcallV (As := [.int _, .int _]) (rest := []) (n := 12154) (j := 832) hF hs hl.1 (hc.hO 114 (by decide)) (cm := xFiJ) yo_yr211 rfl (by decide) (by decide +kernel) (show _ = some 2 from by decide +kernel) (by decide +kernel) ⟨by decide, by decide⟩ ⟨rfl, rfl⟩ (Nat.le_of_ble_eq_true rfl) ⟨Nat.zero_le _, Nat.zero_le _⟩ (kM_fiJ hv hX hzn hT hc (show fr < 8 by omega) hwh) (fun H1 locs1 cwf tys1 rv hs hX1 => ?_)
  obtain ⟨e1, e2, Vf, Lf, cf, f1, f2, hB⟩ := hX1
  subst e1
  rw [e2] at hs
  have hXf : kVc X Vf := by
    unfold kVc
    rw [f1 197 (by decide), f1 198 (by decide), f1 199 (by decide), f1 200 (by decide), f1 194 (by decide), f1 195 (by decide)]
    exact hX
  have hFp := jpm_pw hXX fr wh to
  have hFm := jcm_fm hXX fr wh to
  have loopM : ∀ (d m0 : Nat), m0 + d = 4 → ∀ (H : Heap) (locs : List Loc) (cw : va_W) (V1 : Nat → Nat → Int32) (L1 : Nat → Nat → Int64) (vs1 : List Value) (K l1 : List jO) (ls : Array Slot), xs D s A H locs cw tys → kW ad cI vs1 V1 L1 cw → kMv ad X.n (nI K.length) vs1 → kns Vf V1 Lf L1 → kro K V1 L1 → jmo (jpm X fr wh to 0) l1 K → l1 ++ jpm X fr wh to m0 = jpm X fr wh to 0 → lv_has ls 6 [(4, .int (nI (m0 + 1))), (0, .ref (ad 114)), (1, .int (nI fr)), (2, .int (nI to)), (3, .int (nI wh))] → W p l e (y_rm xJom) s m [Value.ref (ad 114), .int (nI fr), .int (nI to), .int (nI wh)].toArray below meth c H locs 0 0 Q (F0 m 55 ls []) := by
    intro d
    induction d with
    | zero =>
      intro m0 hmd H locs cw V1 L1 vs1 K l1 ls hs hc hv hns hro hmo hll hl
      have e4 : m0 = 4 := by omega
      subst e4
      refine lv_iload (i := 4) hF.1 hF.2.1 (y_dcd_ok (by decide +kernel)) (lv_at hl 0 rfl) ?_
      refine lv_iconst (n := 5) (v := 5) hF.1 hF.2.1 (y_dcd_ok (by decide +kernel)) (by decide) ?_
      refine lv_icmp_ge (off := 72) (tgt := 130) hF.1 hF.2.1 (y_dcd_ok (by decide +kernel)) (by decide) (fun hq => ?_) (fun hq => ?_)
      · show W _ _ _ _ _ _ _ _ _ _ _ _ _ _ _ (F0 m 130 ls [])
        refine lv_aload_n (k := 0) hF.1 hF.2.1 (y_dcd_ok (by decide +kernel)) rfl (lv_at hl 1 rfl) ?_
        refine ggo (n := 8231) (index := 829) hF hs hc 114 (by decide) rfl 121 (by decide) (by decide +kernel) hv.h121 (by decide +kernel) ?_
        rw [jpm_4, List.append_nil] at hll
        rw [hll] at hmo
        exact ki _ _ cw tys ls 134 _ .int rfl rfl (by decide +kernel) hs ⟨rfl, Or.inr ⟨⟨⟨hx, hy⟩, hz, hxy⟩, fr, to, wh, rfl, rfl, rfl, ⟨hfr, hto, hwh⟩, K, V1, L1, vs1, rfl, hc, hv.h121, hro, hmo⟩⟩
      · exact absurd (by decide) hq
    | succ d ih =>
      intro m0 hmd H locs cw V1 L1 vs1 K l1 ls hs hc hv hns hro hmo hll hl
      have hm4 : m0 < 4 := by omega
      rw [jpm_s X fr wh to hm4] at hll
      refine lv_iload (i := 4) hF.1 hF.2.1 (y_dcd_ok (by decide +kernel)) (lv_at hl 0 rfl) ?_
      refine lv_iconst (n := 5) (v := 5) hF.1 hF.2.1 (y_dcd_ok (by decide +kernel)) (by decide) ?_
      refine lv_icmp_ge (off := 72) (tgt := 130) hF.1 hF.2.1 (y_dcd_ok (by decide +kernel)) (by decide) (fun hq => ?_) (fun hq => ?_)
      · exact absurd ((dni_leb (i := 5) (by decide) (by omega)).mp hq) (by omega)
      clear hq
      have loopP : ∀ (dq q : Nat), q + dq = 96 → ∀ (H : Heap) (locs : List Loc) (cw : va_W) (V1 : Nat → Nat → Int32) (L1 : Nat → Nat → Int64) (vs1 : List Value) (K l1 : List jO) (ls : Array Slot), xs D s A H locs cw tys → kW ad cI vs1 V1 L1 cw → kMv ad X.n (nI K.length) vs1 → kns Vf V1 Lf L1 → kro K V1 L1 → jmo (jpm X fr wh to 0) l1 K → l1 ++ (jpk X (jtb X fr wh m0) to (m0 + 1) q ++ jpm X fr wh to (m0 + 1)) = jpm X fr wh to 0 → lv_has ls 6 [(5, .int (nI q)), (4, .int (nI (m0 + 1))), (0, .ref (ad 114)), (1, .int (nI fr)), (2, .int (nI to)), (3, .int (nI wh))] → W p l e (y_rm xJom) s m [Value.ref (ad 114), .int (nI fr), .int (nI to), .int (nI wh)].toArray below meth c H locs 0 0 Q (F0 m 64 ls []) := by
        intro dq
        induction dq with
        | zero =>
          intro q hqd H locs cw V1 L1 vs1 K l1 ls hs hc hv hns hro hmo hll hl
          have e96 : q = 96 := by omega
          subst e96
          rw [jpk_n, List.nil_append] at hll
          refine lv_iload (i := 5) hF.1 hF.2.1 (y_dcd_ok (by decide +kernel)) (lv_at hl 0 rfl) ?_
          refine lv_bipush (n := 96) (v := 96) hF.1 hF.2.1 (y_dcd_ok (by decide +kernel)) (by decide) ?_
          refine lv_icmp_ge (off := 56) (tgt := 124) hF.1 hF.2.1 (y_dcd_ok (by decide +kernel)) (by decide) (fun hq => ?_) (fun hq => ?_)
          · show W _ _ _ _ _ _ _ _ _ _ _ _ _ _ _ (F0 m 124 ls [])
            refine lv_iinc (nL := 6) (i := 4) (n := 1) (k := 1) (v := nI (m0 + 1 + 1)) hF.1 hF.2.1 (y_dcd_ok (by decide +kernel)) hl rfl (dni_add (by omega)) (by decide) rfl (fun ls hl => ?_)
            refine lv_goto (off := (-72)) (tgt := 55) hF.1 hF.2.1 (y_dcd_ok (by decide +kernel)) (by decide) ?_
            exact ih (m0 + 1) (by omega) _ _ cw V1 L1 vs1 K l1 ls hs hc hv hns hro hmo hll (lv_sub hl [0, 2, 3, 4, 5] rfl)
          · exact absurd (by decide) hq
        | succ dq ihq =>
          intro q hqd H locs cw V1 L1 vs1 K l1 ls hs hc hv hns hro hmo hll hl
          have hq96 : q < 96 := by omega
          have hyi : 96 * (m0 + 1) + q < 480 := by omega
          have hX1 := kVc_ns hns hXf
          have t1 := hX1.st q hq96
          have t2 := hX1.ar q hq96
          have hB1 : ∀ m0, m0 < 4 → ktm (jtb X fr wh m0) (m0 + 1) (V1 201) (L1 202) := fun m1 h => kns_tm hns (hB m1 h)
          have hBq := hB1 m0 hm4 q hq96
          rw [jpk_s X (jtb X fr wh m0) to (m0 + 1) hq96] at hll
          have next : ∀ (H : Heap) (locs : List Loc) (cw : va_W) (V2 : Nat → Nat → Int32) (L2 : Nat → Nat → Int64) (vs2 : List Value) (K2 : List jO) (ls : Array Slot), xs D s A H locs cw tys → kW ad cI vs2 V2 L2 cw → kMv ad X.n (nI K2.length) vs2 → kns Vf V2 Lf L2 → kro K2 V2 L2 → jmo (jpm X fr wh to 0) (l1 ++ (jca X (jtb X fr wh m0) to (m0 + 1) q).toList) K2 → lv_has ls 6 [(5, .int (nI q)), (4, .int (nI (m0 + 1))), (0, .ref (ad 114)), (1, .int (nI fr)), (2, .int (nI to)), (3, .int (nI wh))] → W p l e (y_rm xJom) s m [Value.ref (ad 114), .int (nI fr), .int (nI to), .int (nI wh)].toArray below meth c H locs 0 0 Q (F0 m 118 ls []) := by
            intro H locs cw V2 L2 vs2 K2 ls hs hc hv hns hro hmo hl
            refine lv_iinc (nL := 6) (i := 5) (n := 1) (k := 0) (v := nI (q + 1)) hF.1 hF.2.1 (y_dcd_ok (by decide +kernel)) hl rfl (dni_add (by omega)) (by decide) rfl (fun ls hl => ?_)
            refine lv_goto (off := (-57)) (tgt := 64) hF.1 hF.2.1 (y_dcd_ok (by decide +kernel)) (by decide) ?_
            refine ihq (q + 1) (by omega) _ _ cw V2 L2 vs2 K2 _ ls hs hc hv hns hro hmo ?_ hl
            rw [← hll]
            simp only [List.append_assoc]
          refine lv_iload (i := 5) hF.1 hF.2.1 (y_dcd_ok (by decide +kernel)) (lv_at hl 0 rfl) ?_
          refine lv_bipush (n := 96) (v := 96) hF.1 hF.2.1 (y_dcd_ok (by decide +kernel)) (by decide) ?_
          refine lv_icmp_ge (off := 56) (tgt := 124) hF.1 hF.2.1 (y_dcd_ok (by decide +kernel)) (by decide) (fun hq => ?_) (fun hq => ?_)
          · exact absurd ((dni_leb (i := 96) (by omega) (by omega)).mp hq) (by omega)
          clear hq
          refine lv_aload_n (k := 0) hF.1 hF.2.1 (y_dcd_ok (by decide +kernel)) rfl (lv_at hl 2 rfl) ?_
          refine ggo (n := 8229) (index := 271) hF hs hc 114 (by decide) rfl 119 (by decide) (by decide +kernel) hv.h119 (by decide +kernel) ?_
          refine lv_bipush (n := 96) (v := 96) hF.1 hF.2.1 (y_dcd_ok (by decide +kernel)) (by decide) ?_
          refine lv_iload (i := 4) hF.1 hF.2.1 (y_dcd_ok (by decide +kernel)) (lv_at hl 1 rfl) ?_
          refine lv_imul hF.1 hF.2.1 (y_dcd_ok (by decide +kernel)) ?_
          refine lv_iload (i := 5) hF.1 hF.2.1 (y_dcd_ok (by decide +kernel)) (lv_at hl 0 rfl) ?_
          refine lv_iadd hF.1 hF.2.1 (y_dcd_ok (by decide +kernel)) ?_
          rw [kpl (by omega) (by omega)]
          refine gald hF hs hT hc 201 480 (by decide) (by decide) hyi (by decide +kernel) ?_
          refine lv_if_lt (off := 34) (tgt := 118) hF.1 hF.2.1 (y_dcd_ok (by decide +kernel)) (by decide) (fun hq => ?_) (fun hq => ?_)
          · have hn : jtb X fr wh m0 q = none := by
              cases hb : jtb X fr wh m0 q with
              | none => rfl
              | some b =>
                rw [hb] at hBq
                rw [hBq.1] at hq
                have := (dni_ltb (j := 0) (by have := hBq.2.2.1; omega) (by decide)).mp hq
                omega
            exact next _ _ cw V1 L1 vs1 K ls hs hc hv hns hro (by rw [show jca X (jtb X fr wh m0) to (m0 + 1) q = none from by unfold jca; rw [hn]]; simpa using hmo) hl
          obtain ⟨a, ha⟩ : ∃ a, jtb X fr wh m0 q = some a := by
            cases hb : jtb X fr wh m0 q with
            | none =>
              rw [hb] at hBq
              rw [show V1 201 (96 * (m0 + 1) + q) = -1 from hBq] at hq
              exact absurd (by decide) hq
            | some a => exact ⟨a, rfl⟩
          clear hq
          rw [ha] at hBq
          obtain ⟨k1, k2, k3, k4⟩ := hBq
          refine lv_aload_n (k := 0) hF.1 hF.2.1 (y_dcd_ok (by decide +kernel)) rfl (lv_at hl 2 rfl) ?_
          refine ggo (n := 8226) (index := 262) hF hs hc 114 (by decide) rfl 116 (by decide) (by decide +kernel) hv.h116 (by decide +kernel) ?_
          refine lv_iload (i := 5) hF.1 hF.2.1 (y_dcd_ok (by decide +kernel)) (lv_at hl 0 rfl) ?_
          refine gald hF hs hT hc 198 96 (by decide) (by decide) hq96 (by decide +kernel) ?_
          rw [t1.1]
          refine lv_iload_n (k := 2) hF.1 hF.2.1 (y_dcd_ok (by decide +kernel)) rfl (lv_at hl 4 rfl) ?_
          refine lv_icmp_ne (off := 23) (tgt := 118) hF.1 hF.2.1 (y_dcd_ok (by decide +kernel)) (by decide) (fun hq => ?_) (fun hq => ?_)
          · exact next _ _ cw V1 L1 vs1 K ls hs hc hv hns hro (by rw [show jca X (jtb X fr wh m0) to (m0 + 1) q = none from by unfold jca; rw [ha]; exact if_neg (fun z => hq (by rw [z]))]; simpa using hmo) hl
          have hse := dni_injb (by omega) (by omega) hq
          clear hq
          have hjc : jca X (jtb X fr wh m0) to (m0 + 1) q = some ⟨X.ar q, m0 + 1, a.1, a.2⟩ := by unfold jca; rw [ha]; exact if_pos hse
          rw [hjc] at hll next
          have hFx : l1 ++ ⟨X.ar q, m0 + 1, a.1, a.2⟩ :: (jpk X (jtb X fr wh m0) to (m0 + 1) (q + 1) ++ jpm X fr wh to (m0 + 1)) = jpm X fr wh to 0 := by
            rw [← hll]
            simp [List.append_assoc]
          have hxl := jbl_new hFp hFx
          have hxF : (⟨X.ar q, m0 + 1, a.1, a.2⟩ : jO) ∈ jpm X fr wh to 0 := by
            rw [← hFx]
            exact List.mem_append.mpr (Or.inr List.mem_cons_self)
          have hlF : ∀ w ∈ l1, w ∈ jpm X fr wh to 0 := fun w hw => by
            rw [← hFx]
            exact List.mem_append.mpr (Or.inl hw)
          have hxb : jxb ⟨X.ar q, m0 + 1, a.1, a.2⟩ := ⟨by show X.ar q < 20000; omega, by show m0 + 1 < 100; omega, by show a.1 < 10000; omega, by show a.2 < 2 ^ 60; omega⟩
          have hK8 : K.length ≤ 148 := jnd_len (fun w hw => ⟨hlF w ((hmo.1 w).mp hw).1, ((hmo.1 w).mp hw).2⟩) hmo.2 (fun w hw => (hFm w hw).1)
          refine lv_aload_n (k := 0) hF.1 hF.2.1 (y_dcd_ok (by decide +kernel)) rfl (lv_at hl 2 rfl) ?_
          refine lv_iload_n (k := 2) hF.1 hF.2.1 (y_dcd_ok (by decide +kernel)) rfl (lv_at hl 4 rfl) ?_
          refine lv_iload (i := 4) hF.1 hF.2.1 (y_dcd_ok (by decide +kernel)) (lv_at hl 1 rfl) ?_
          refine lv_iload (i := 5) hF.1 hF.2.1 (y_dcd_ok (by decide +kernel)) (lv_at hl 0 rfl) ?_
          refine xcallV (As := [.int (nI to), .int (nI (m0 + 1)), .int (nI q)]) (rest := []) (n := 12174) (j := 835) hF hs hl.1 (hc.hO 114 (by decide)) (cm := xBea) yo_yr235 rfl (by decide) (by decide +kernel) (show _ = some 3 from by decide +kernel) (by decide +kernel) ⟨by decide, by decide⟩ ⟨rfl, rfl⟩ (Nat.le_of_ble_eq_true rfl) ⟨Nat.zero_le _, Nat.zero_le _⟩ (kM_bea (x := ⟨X.ar q, m0 + 1, a.1, a.2⟩) hv hX1 hT hc (show to < 8 by omega) hB1 hxb hq96 (show 1 ≤ m0 + 1 by omega) (show m0 + 1 ≤ 4 by omega) rfl k1 k2) (fun H2 locs2 cw2 tys2 rv hs hX2 => ?_)
          obtain ⟨e1, e2', e3'⟩ := hX2
          subst e1
          rw [e2', e3'] at hs
          have hany := jpg_any hXX fr wh to (x := ⟨X.ar q, m0 + 1, a.1, a.2⟩) (show m0 + 1 ≤ 4 by omega)
          show W _ _ _ _ _ _ _ _ _ _ _ _ _ _ _ (F0 m 107 ls [.int _])
          refine lv_if_ne (off := 11) (tgt := 118) hF.1 hF.2.1 (y_dcd_ok (by decide +kernel)) (by decide) (fun hq => ?_) (fun hq => ?_)
          · have hb : ((jpg X fr wh to (jO.m (X.ar q, m0 + 1, a.1, a.2)) 0).any fun y => decide (jdm y ⟨X.ar q, m0 + 1, a.1, a.2⟩)) = true := by
              cases hb : ((jpg X fr wh to (jO.m (X.ar q, m0 + 1, a.1, a.2)) 0).any fun y => decide (jdm y ⟨X.ar q, m0 + 1, a.1, a.2⟩)) with
              | true => rfl
              | false =>
                rw [hb] at hq
                exact absurd rfl hq
            exact next _ _ cw V1 L1 vs1 K ls hs hc hv hns hro (jmo_no hmo (hany.mp hb)) hl
          have hb : ¬ ((jpg X fr wh to (jO.m (X.ar q, m0 + 1, a.1, a.2)) 0).any fun y => decide (jdm y ⟨X.ar q, m0 + 1, a.1, a.2⟩)) = true := fun z => by
            rw [if_pos z] at hq
            exact absurd hq (by decide)
          clear hq
          refine lv_aload_n (k := 0) hF.1 hF.2.1 (y_dcd_ok (by decide +kernel)) rfl (lv_at hl 2 rfl) ?_
          refine lv_iload (i := 4) hF.1 hF.2.1 (y_dcd_ok (by decide +kernel)) (lv_at hl 1 rfl) ?_
          refine lv_iload (i := 5) hF.1 hF.2.1 (y_dcd_ok (by decide +kernel)) (lv_at hl 0 rfl) ?_
          refine xcallV (As := [.int (nI (m0 + 1)), .int (nI q)]) (rest := []) (n := 12178) (j := 838) hF hs hl.1 (hc.hO 114 (by decide)) (cm := xAdd) yo_yr178 rfl (by decide) (by decide +kernel) (show _ = some 2 from by decide +kernel) (by decide +kernel) ⟨by decide, by decide⟩ ⟨rfl, rfl⟩ (Nat.le_of_ble_eq_true rfl) ⟨Nat.zero_le _, Nat.zero_le _⟩ (kM_add (x := ⟨X.ar q, m0 + 1, a.1, a.2⟩) (show K.length < 400 by omega) hv hT hc hro hxb hq96 (show m0 + 1 ≤ 4 by omega) t2.1 k1 k2) (fun H3 locs3 cw3 tys3 rv hs hX3 => ?_)
          obtain ⟨e1, e2'', V3, L3, c3, n3, o3⟩ := hX3
          subst e1
          rw [e2''] at hs
          show W _ _ _ _ _ _ _ _ _ _ _ _ _ _ _ (F0 m 118 ls [])
          exact next _ _ cw3 V3 L3 _ _ ls hs c3 (hv.set _) (kns_tr hns n3) o3 (jmo_in hmo hlF hxF hxl (fun y hy hd => hb (hany.mpr ⟨y, hy, hd⟩))) hl
      refine lv_iconst (n := 0) (v := 0) hF.1 hF.2.1 (y_dcd_ok (by decide +kernel)) (by decide) ?_
      refine lv_istore (nL := 6) (i := 5) hF.1 hF.2.1 (y_dcd_ok (by decide +kernel)) hl (by decide) rfl (fun ls hl => ?_)
      exact loopP 96 0 (by omega) _ _ cw V1 L1 vs1 K l1 ls hs hc hv hns hro hmo hll hl
  show W _ _ _ _ _ _ _ _ _ _ _ _ _ _ _ (F0 m 47 ls [])
  refine lv_aload_n (k := 0) hF.1 hF.2.1 (y_dcd_ok (by decide +kernel)) rfl (lv_at hl 0 rfl) ?_
  refine lv_iconst (n := 0) (v := 0) hF.1 hF.2.1 (y_dcd_ok (by decide +kernel)) (by decide) ?_
  refine gpo (n := 8231) (index := 829) hF hs cf 114 (by decide) rfl 121 (by decide) (by decide +kernel) rfl (ty := .int) (by decide +kernel) rfl rfl hv.len (by decide +kernel) (fun H locs cw hs hc => ?_)
  have hc := kW_op hc
  refine lv_iconst (n := 1) (v := 1) hF.1 hF.2.1 (y_dcd_ok (by decide +kernel)) (by decide) ?_
  refine lv_istore (nL := 6) (i := 4) hF.1 hF.2.1 (y_dcd_ok (by decide +kernel)) hl (by decide) rfl (fun ls hl => ?_)
  exact loopM 4 0 (by omega) _ _ cw Vf Lf _ [] [] ls hs hc (hv.set _) ⟨fun _ _ => rfl, fun _ _ => rfl⟩ (fun k x h => (by simp at h)) ⟨fun x => ⟨fun h => (by cases h), fun h => (by cases h.1)⟩, List.Pairwise.nil⟩ rfl hl
end ZE
