-- the class: bitOf, beginOf, keepBest
section XN
variable {D : va_G} {b : Nat → Nat} {tb : yTb} {l : Launch}
variable {p : Program} {e : Env} {R : Room} {s : State} {m : MethodId} {args : Array Value} {below : List Frame} {meth : Method} {c : Code} {A : Nat → Prop} {ce sl : Nat} {mr : yMR} {Q : State → Prop}
variable {H : Heap} {locs : List Loc} {cw cw0 : va_W} {tys : List (ClassId × FieldType)} {ls : Array Slot} {rest : List Value} {pc : Nat}
variable {o ci r0 r1 : Nat} {ad : Nat → Nat} {cI : Nat → ClassId} {V : Nat → Nat → Int32} {vs : List Value}
theorem xaldN (hF : y_Fix ztb znw b zcls tb p R s m args meth c A mr) (hs : xs D s A H locs cw tys) (ht : xT r0 r1 cI tys) (hc : xc o ci r0 r1 ad cI cw0 V vs cw) {r : Nat} (h0 : r0 ≤ r) (h1 : r < r1) {k : Nat} (hk : k < 7) (hd : y_dcd (y_cc mr) pc .iaload 1 = true) (kk : W p l e R s m args below meth c H locs ce sl Q (F0 m (pc + 1) ls (.int (V r k) :: rest))) : W p l e R s m args below meth c H locs ce sl Q (F0 m pc ls (.int (nI k) :: .ref (ad r) :: rest)) := xald hF hs ht hc h0 h1 (dni_in hk) hd (by rw [dni_cl (by omega)]; exact kk)
theorem xastN (hF : y_Fix ztb znw b zcls tb p R s m args meth c A mr) (hs : xs D s A H locs cw tys) (ht : xT r0 r1 cI tys) (ho : o < r0 ∨ r1 ≤ o) (hc : xc o ci r0 r1 ad cI cw0 V vs cw) {r : Nat} (h0 : r0 ≤ r) (h1 : r < r1) {k : Nat} {x : Int32} (hk : k < 7) (hd : y_dcd (y_cc mr) pc .iastore 1 = true) (kk : ∀ (H1 : Heap) (locs1 : List Loc) (cw1 : va_W), xs D s A H1 locs1 cw1 tys → xc o ci r0 r1 ad cI cw0 (xup V r k x) vs cw1 → W p l e R s m args below meth c H1 locs1 ce sl Q (F0 m (pc + 1) ls rest)) : W p l e R s m args below meth c H locs ce sl Q (F0 m pc ls (.int x :: .int (nI k) :: .ref (ad r) :: rest)) := xast hF hs ht ho hc h0 h1 (dni_in hk) hd (by rw [dni_cl (by omega)]; exact kk)
end XN
abbrev xBit : yMR := xmr ⟨"RailwayHouse", "bitOf", "(II)I"⟩ prog_1_method_61_code 2 (some .int) ⟨1, 0, 0, 60⟩ 111
abbrev xBeg : yMR := xmr ⟨"RailwayHouse$Line", "beginOf", "(II)I"⟩ prog_5_method_6_code 6 (some .int) ⟨1, 0, 0, 60⟩ 3
abbrev xKee : yMR := xmr ⟨"RailwayHouse$Line", "keepBest", "(I)V"⟩ prog_5_method_7_code 3 none ⟨1, 0, 0, 60⟩ 3
section XA
variable {l : Launch} {D : va_G} {b : Nat → Nat} {cw cw0 : va_W} {tys : List (ClassId × FieldType)} {sz : Nat} {ad : Nat → Nat} {cI : Nat → ClassId} {V : Nat → Nat → Int32}
theorem dM_bit (x y : Int32) : Met l (y_y xBit) (y_ws ztb xBit) (y_rm xBit) (y_Pc znw b zcls D cw tys sz [.int x, .int y]) (y_Q zcls D (fun cw' tys' rv => rv = some (.int (dbt x y)) ∧ tys' = tys ∧ cw' = cw) cw sz) 0 0 (va_A cw sz) := by
  refine xMet (tb := ytb yw00) (mr := xBit) yo_ym81 (fun x hx => by cases hx) (Nat.le_of_ble_eq_true rfl) ?_
  intro p e s m below meth c Q ls hsz hF hs hl kv ki
  refine lv_iload_n (k := 0) hF.1 hF.2.1 (y_dcd_ok (by decide +kernel)) rfl (lv_at hl 0 rfl) ?_
  refine lv_iload_n (k := 1) hF.1 hF.2.1 (y_dcd_ok (by decide +kernel)) rfl (lv_at hl 1 rfl) ?_
  refine lv_iushr hF.1 hF.2.1 (y_dcd_ok (by decide +kernel)) rfl ?_
  refine lv_iconst (n := 1) (v := 1) hF.1 hF.2.1 (y_dcd_ok (by decide +kernel)) (by decide) ?_
  refine lv_iand hF.1 hF.2.1 (y_dcd_ok (by decide +kernel)) ?_
  exact ki _ _ cw tys ls _ _ .int rfl rfl (by decide +kernel) hs ⟨rfl, rfl, rfl⟩
set_option maxHeartbeats 1000000 in
theorem dM_beg {sz0 od bc : Int32} (hT : xT 103 113 cI tys) (hc : xc 102 3 103 113 ad cI cw0 V (xLn ad sz0 od bc) cw) {R : dR} (hR : R = dRo V) {ps : List Nat} (hp : dPre R (V 108) (V 109) ps) (hps : ∀ t ∈ ps, t < 7) (hpl : ps.length ≤ 7) {t : Nat} (ht : t < 7) : Met l (y_y xBeg) (y_ws ztb xBeg) (y_rm xBeg) (y_Pc znw b zcls D cw tys sz [.ref (ad 102), .int (nI t), .int (nI ps.length)]) (y_Q zcls D (fun cw' tys' rv => rv = some (.int (dbg R (t :: ps))) ∧ tys' = tys ∧ cw' = cw) cw sz) 0 0 (va_A cw sz) := by
  refine xMet (tb := ytb yw00) (mr := xBeg) yo_yr27 (fun x hx => by cases hx) (Nat.le_of_ble_eq_true rfl) ?_
  intro p e s m below meth c Q ls hsz hF hs hl kv ki
  have hl : lv_has ls 6 [(0, .ref (ad 102)), (1, .int (nI t)), (2, .int (nI ps.length))] := hl
  subst hR
  refine lv_iload_n (k := 2) hF.1 hF.2.1 (y_dcd_ok (by decide +kernel)) rfl (lv_at hl 2 rfl) ?_
  refine lv_if_ne (off := 10) (tgt := 11) hF.1 hF.2.1 (y_dcd_ok (by decide +kernel)) (by decide) (fun hq => ?_) (fun hq => ?_)
  rotate_left
  · have e0 : ps = [] := by
      cases ps with
      | nil => rfl
      | cons q r =>
        have := dni_inj (i := (q :: r).length) (j := 0) (by omega) (by decide) hq
        simp at this
    subst e0
    refine lv_aload_n (k := 0) hF.1 hF.2.1 (y_dcd_ok (by decide +kernel)) rfl (lv_at hl 0 rfl) ?_
    refine xgo (n := 3051) (index := 20) hF hs hc rfl 3 (by decide) (by decide +kernel) rfl (by decide +kernel) ?_
    refine lv_iload_n (k := 1) hF.1 hF.2.1 (y_dcd_ok (by decide +kernel)) rfl (lv_at hl 1 rfl) ?_
    refine xaldN (r := 104) hF hs hT hc (by decide) (by decide) ht (by decide +kernel) ?_
    exact ki _ _ cw tys ls _ _ .int rfl rfl (by decide +kernel) hs ⟨rfl, rfl, rfl⟩
  obtain ⟨pv, q, rfl⟩ : ∃ pv q, ps = pv :: q := by
    cases ps with
    | nil => exact absurd rfl hq
    | cons pv q => exact ⟨pv, q, rfl⟩
  have hpv := hps pv List.mem_cons_self
  have hql : q.length < 7 := by simp only [List.length_cons] at hpl; omega
  have e1 : nI (pv :: q).length - 1 = nI q.length := dni_sub (k := q.length) (by omega)
  refine lv_aload_n (k := 0) hF.1 hF.2.1 (y_dcd_ok (by decide +kernel)) rfl (lv_at hl 0 rfl) ?_
  refine xgo (n := 3055) (index := 32) hF hs hc rfl 7 (by decide) (by decide +kernel) rfl (by decide +kernel) ?_
  refine lv_iload_n (k := 2) hF.1 hF.2.1 (y_dcd_ok (by decide +kernel)) rfl (lv_at hl 2 rfl) ?_
  refine lv_iconst (n := 1) (v := 1) hF.1 hF.2.1 (y_dcd_ok (by decide +kernel)) (by decide) ?_
  refine lv_isub hF.1 hF.2.1 (y_dcd_ok (by decide +kernel)) ?_
  rw [e1]
  refine xaldN (r := 108) hF hs hT hc (by decide) (by decide) hql (by decide +kernel) ?_
  rw [hp.1.1]
  refine lv_istore_n (nL := 6) (k := 3) hF.1 hF.2.1 (y_dcd_ok (by decide +kernel)) rfl hl (by decide) rfl (fun ls hl => ?_)
  refine lv_aload_n (k := 0) hF.1 hF.2.1 (y_dcd_ok (by decide +kernel)) rfl (lv_at hl 1 rfl) ?_
  refine xgo (n := 3056) (index := 35) hF hs hc rfl 8 (by decide) (by decide +kernel) rfl (by decide +kernel) ?_
  refine lv_iload_n (k := 2) hF.1 hF.2.1 (y_dcd_ok (by decide +kernel)) rfl (lv_at hl 3 rfl) ?_
  refine lv_iconst (n := 1) (v := 1) hF.1 hF.2.1 (y_dcd_ok (by decide +kernel)) (by decide) ?_
  refine lv_isub hF.1 hF.2.1 (y_dcd_ok (by decide +kernel)) ?_
  rw [e1]
  refine xaldN (r := 109) hF hs hT hc (by decide) (by decide) hql (by decide +kernel) ?_
  rw [hp.1.2]
  refine lv_istore (nL := 6) (i := 4) hF.1 hF.2.1 (y_dcd_ok (by decide +kernel)) hl (by decide) rfl (fun ls hl => ?_)
  refine lv_iload (i := 4) hF.1 hF.2.1 (y_dcd_ok (by decide +kernel)) (lv_at hl 0 rfl) ?_
  refine lv_aload_n (k := 0) hF.1 hF.2.1 (y_dcd_ok (by decide +kernel)) rfl (lv_at hl 2 rfl) ?_
  refine xgo (n := 3052) (index := 23) hF hs hc rfl 4 (by decide) (by decide +kernel) rfl (by decide +kernel) ?_
  refine lv_iload_n (k := 3) hF.1 hF.2.1 (y_dcd_ok (by decide +kernel)) rfl (lv_at hl 1 rfl) ?_
  refine xaldN (r := 105) hF hs hT hc (by decide) (by decide) hpv (by decide +kernel) ?_
  refine lv_iadd hF.1 hF.2.1 (y_dcd_ok (by decide +kernel)) ?_
  refine lv_istore (nL := 6) (i := 5) hF.1 hF.2.1 (y_dcd_ok (by decide +kernel)) hl (by decide) rfl (fun ls hl => ?_)
  refine lv_aload_n (k := 0) hF.1 hF.2.1 (y_dcd_ok (by decide +kernel)) rfl (lv_at hl 3 rfl) ?_
  refine xgo (n := 3050) (index := 16) hF hs hc rfl 2 (by decide) (by decide +kernel) rfl (by decide +kernel) ?_
  refine lv_iload_n (k := 3) hF.1 hF.2.1 (y_dcd_ok (by decide +kernel)) rfl (lv_at hl 2 rfl) ?_
  refine xaldN (r := 103) hF hs hT hc (by decide) (by decide) hpv (by decide +kernel) ?_
  refine lv_aload_n (k := 0) hF.1 hF.2.1 (y_dcd_ok (by decide +kernel)) rfl (lv_at hl 3 rfl) ?_
  refine xgo (n := 3050) (index := 16) hF hs hc rfl 2 (by decide) (by decide +kernel) rfl (by decide +kernel) ?_
  refine lv_iload_n (k := 1) hF.1 hF.2.1 (y_dcd_ok (by decide +kernel)) rfl (lv_at hl 4 rfl) ?_
  refine xaldN (r := 103) hF hs hT hc (by decide) (by decide) ht (by decide +kernel) ?_
  refine lv_icmp_eq (off := 15) (tgt := 68) hF.1 hF.2.1 (y_dcd_ok (by decide +kernel)) (by decide) (fun hq => ?_) (fun hq => ?_)
  · have hq : (dRo V).w pv = (dRo V).w t := hq
    refine lv_aload_n (k := 0) hF.1 hF.2.1 (y_dcd_ok (by decide +kernel)) rfl (lv_at hl 3 rfl) ?_
    refine xgo (n := 3051) (index := 20) hF hs hc rfl 3 (by decide) (by decide +kernel) rfl (by decide +kernel) ?_
    refine lv_iload_n (k := 1) hF.1 hF.2.1 (y_dcd_ok (by decide +kernel)) rfl (lv_at hl 4 rfl) ?_
    refine xaldN (r := 104) hF hs hT hc (by decide) (by decide) ht (by decide +kernel) ?_
    refine lv_iload (i := 4) hF.1 hF.2.1 (y_dcd_ok (by decide +kernel)) (lv_at hl 1 rfl) ?_
    refine lv_iconst (n := 3) (v := 3) hF.1 hF.2.1 (y_dcd_ok (by decide +kernel)) (by decide) ?_
    refine lv_iadd hF.1 hF.2.1 (y_dcd_ok (by decide +kernel)) ?_
    refine lv_iload (i := 5) hF.1 hF.2.1 (y_dcd_ok (by decide +kernel)) (lv_at hl 0 rfl) ?_
    refine lv_iconst (n := 3) (v := 3) hF.1 hF.2.1 (y_dcd_ok (by decide +kernel)) (by decide) ?_
    refine lv_iadd hF.1 hF.2.1 (y_dcd_ok (by decide +kernel)) ?_
    refine lv_aload_n (k := 0) hF.1 hF.2.1 (y_dcd_ok (by decide +kernel)) rfl (lv_at hl 3 rfl) ?_
    refine xgo (n := 3052) (index := 23) hF hs hc rfl 4 (by decide) (by decide +kernel) rfl (by decide +kernel) ?_
    refine lv_iload_n (k := 1) hF.1 hF.2.1 (y_dcd_ok (by decide +kernel)) rfl (lv_at hl 4 rfl) ?_
    refine xaldN (r := 105) hF hs hT hc (by decide) (by decide) ht (by decide +kernel) ?_
    refine lv_isub hF.1 hF.2.1 (y_dcd_ok (by decide +kernel)) ?_
    refine xmx (n := 8046) (index := 70) hF hl.1 (by decide +kernel) dst3 (by decide) (Nat.le_of_ble_eq_true rfl) (Nat.zero_le _) (Nat.zero_le _) (by decide +kernel) ?_
    refine xmx (n := 8046) (index := 70) hF hl.1 (by decide +kernel) dst3 (by decide) (Nat.le_of_ble_eq_true rfl) (Nat.zero_le _) (Nat.zero_le _) (by decide +kernel) ?_
    refine ki _ _ cw tys ls _ _ .int rfl rfl (by decide +kernel) hs ⟨?_, rfl, rfl⟩
    show _ = some (Value.int (if (dRo V).w pv = (dRo V).w t then _ else _))
    rw [if_pos hq]
    rfl
  · have hq : ¬ (dRo V).w pv = (dRo V).w t := hq
    refine lv_aload_n (k := 0) hF.1 hF.2.1 (y_dcd_ok (by decide +kernel)) rfl (lv_at hl 3 rfl) ?_
    refine xgo (n := 3051) (index := 20) hF hs hc rfl 3 (by decide) (by decide +kernel) rfl (by decide +kernel) ?_
    refine lv_iload_n (k := 1) hF.1 hF.2.1 (y_dcd_ok (by decide +kernel)) rfl (lv_at hl 4 rfl) ?_
    refine xaldN (r := 104) hF hs hT hc (by decide) (by decide) ht (by decide +kernel) ?_
    refine lv_iload (i := 5) hF.1 hF.2.1 (y_dcd_ok (by decide +kernel)) (lv_at hl 0 rfl) ?_
    refine xmx (n := 8046) (index := 70) hF hl.1 (by decide +kernel) dst3 (by decide) (Nat.le_of_ble_eq_true rfl) (Nat.zero_le _) (Nat.zero_le _) (by decide +kernel) ?_
    refine ki _ _ cw tys ls _ _ .int rfl rfl (by decide +kernel) hs ⟨?_, rfl, rfl⟩
    show _ = some (Value.int (if (dRo V).w pv = (dRo V).w t then _ else _))
    rw [if_neg hq]
    rfl
/-- as far as place k copied -/
def dKp (ad : Nat → Nat) (cI : Nat → ClassId) (cw0 : va_W) (n : Nat) (od bc : Int32) (V V' : Nat → Nat → Int32) (k : Nat) (cw : va_W) : Prop := (xc 102 3 103 113 ad cI cw0 V' (xLn ad (nI n) od bc) cw) ∧ (∀ q, q < 110 → V' q = V q) ∧ (∀ j t, j < k → t < 7 → V 108 j = nI t → V' 110 j = V 108 j ∧ V' 111 j = V 109 j ∧ V' 112 j = V 109 j + V 105 t) ∧ (∀ j, k ≤ j → V' 110 j = V 110 j ∧ V' 111 j = V 111 j ∧ V' 112 j = V 112 j)
theorem dKp.c {ad : Nat → Nat} {cI : Nat → ClassId} {cw0 : va_W} {n : Nat} {od bc : Int32} {V V' : Nat → Nat → Int32} {k : Nat} {cw : va_W} (h : dKp ad cI cw0 n od bc V V' k cw) : xc 102 3 103 113 ad cI cw0 V' (xLn ad (nI n) od bc) cw := h.1
theorem dKp.r {ad : Nat → Nat} {cI : Nat → ClassId} {cw0 : va_W} {n : Nat} {od bc : Int32} {V V' : Nat → Nat → Int32} {k : Nat} {cw : va_W} (h : dKp ad cI cw0 n od bc V V' k cw) : ∀ q, q < 110 → V' q = V q := h.2.1
theorem dKp.a {ad : Nat → Nat} {cI : Nat → ClassId} {cw0 : va_W} {n : Nat} {od bc : Int32} {V V' : Nat → Nat → Int32} {k : Nat} {cw : va_W} (h : dKp ad cI cw0 n od bc V V' k cw) : ∀ j t, j < k → t < 7 → V 108 j = nI t → V' 110 j = V 108 j ∧ V' 111 j = V 109 j ∧ V' 112 j = V 109 j + V 105 t := h.2.2.1
theorem dKp.bb {ad : Nat → Nat} {cI : Nat → ClassId} {cw0 : va_W} {n : Nat} {od bc : Int32} {V V' : Nat → Nat → Int32} {k : Nat} {cw : va_W} (h : dKp ad cI cw0 n od bc V V' k cw) : ∀ j, k ≤ j → V' 110 j = V 110 j ∧ V' 111 j = V 111 j ∧ V' 112 j = V 112 j := h.2.2.2
set_option maxHeartbeats 1000000 in
theorem dM_kee {n : Nat} (hn : n ≤ 7) {od bc x : Int32} (hT : xT 103 113 cI tys) (hc : xc 102 3 103 113 ad cI cw0 V (xLn ad (nI n) od bc) cw) (ho : ∀ j, j < n → ∃ t, t < 7 ∧ V 108 j = nI t) : Met l (y_y xKee) (y_ws ztb xKee) (y_rm xKee) (y_Pc znw b zcls D cw tys sz [.ref (ad 102), .int x]) (y_Q zcls D (fun cw' tys' rv => rv = none ∧ tys' = tys ∧ ∃ V', dKp ad cI cw0 n od x V V' n cw') cw sz) 0 0 (va_A cw sz) := by
  refine xMet (tb := ytb yw00) (mr := xKee) yo_yr28 (fun x hx => by cases hx) (Nat.le_of_ble_eq_true rfl) ?_
  intro p e s m below meth c Q ls hsz hF hs hl kv ki
  have hl : lv_has ls 3 [(0, .ref (ad 102)), (1, .int x)] := hl
  generalize va_A cw sz = A at *
  have loop : ∀ (d k : Nat), k + d = n → ∀ (H : Heap) (locs : List Loc) (cw1 : va_W) (V' : Nat → Nat → Int32) (ls : Array Slot), xs D s A H locs cw1 tys → dKp ad cI cw0 n od x V V' k cw1 → lv_has ls 3 [(2, .int (nI k)), (0, .ref (ad 102)), (1, .int x)] → W p l e (y_rm xKee) s m [Value.ref (ad 102), .int x].toArray below meth c H locs 0 0 Q (F0 m 7 ls []) := by
    intro d
    induction d with
    | zero =>
      intro k hk H locs cw1 V' ls hs hK hl
      have hc := hK.c
      refine lv_iload_n (k := 2) hF.1 hF.2.1 (y_dcd_ok (by decide +kernel)) rfl (lv_at hl 0 rfl) ?_
      refine lv_aload_n (k := 0) hF.1 hF.2.1 (y_dcd_ok (by decide +kernel)) rfl (lv_at hl 1 rfl) ?_
      refine xgo (n := 3046) (index := 7) hF hs hc rfl 0 (by decide) (by decide +kernel) rfl (by decide +kernel) ?_
      refine lv_icmp_ge (off := 57) (tgt := 69) hF.1 hF.2.1 (y_dcd_ok (by decide +kernel)) (by decide) (fun hq => ?_) (fun hq => ?_)
      · exact kv _ _ cw1 tys ls _ rfl (by decide +kernel) hs ⟨rfl, rfl, V', by rw [show n = k by omega] at hK ⊢; exact hK⟩
      · exact absurd ((dni_le (by omega) (by omega)).mpr (by omega)) hq
    | succ d ih =>
      intro k hk H locs cw1 V' ls hs hK hl
      have hc := hK.c
      have hk7 : k < 7 := by omega
      obtain ⟨t, ht, hot⟩ := ho k (by omega)
      have e8 : V' 108 k = nI t := by rw [hK.r 108 (by omega)]; exact hot
      refine lv_iload_n (k := 2) hF.1 hF.2.1 (y_dcd_ok (by decide +kernel)) rfl (lv_at hl 0 rfl) ?_
      refine lv_aload_n (k := 0) hF.1 hF.2.1 (y_dcd_ok (by decide +kernel)) rfl (lv_at hl 1 rfl) ?_
      refine xgo (n := 3046) (index := 7) hF hs hc rfl 0 (by decide) (by decide +kernel) rfl (by decide +kernel) ?_
      refine lv_icmp_ge (off := 57) (tgt := 69) hF.1 hF.2.1 (y_dcd_ok (by decide +kernel)) (by decide) (fun hq => ?_) (fun hq => ?_)
      · exact absurd ((dni_le (by omega) (by omega)).mp hq) (by omega)
      refine lv_aload_n (k := 0) hF.1 hF.2.1 (y_dcd_ok (by decide +kernel)) rfl (lv_at hl 1 rfl) ?_
      refine xgo (n := 3057) (index := 38) hF hs hc rfl 9 (by decide) (by decide +kernel) rfl (by decide +kernel) ?_
      refine lv_iload_n (k := 2) hF.1 hF.2.1 (y_dcd_ok (by decide +kernel)) rfl (lv_at hl 0 rfl) ?_
      refine lv_aload_n (k := 0) hF.1 hF.2.1 (y_dcd_ok (by decide +kernel)) rfl (lv_at hl 1 rfl) ?_
      refine xgo (n := 3055) (index := 32) hF hs hc rfl 7 (by decide) (by decide +kernel) rfl (by decide +kernel) ?_
      refine lv_iload_n (k := 2) hF.1 hF.2.1 (y_dcd_ok (by decide +kernel)) rfl (lv_at hl 0 rfl) ?_
      refine xaldN (r := 108) hF hs hT hc (by decide) (by decide) hk7 (by decide +kernel) ?_
      refine xastN (r := 110) hF hs hT (by decide) hc (by decide) (by decide) hk7 (by decide +kernel) (fun H locs cw hs hc => ?_)
      refine lv_aload_n (k := 0) hF.1 hF.2.1 (y_dcd_ok (by decide +kernel)) rfl (lv_at hl 1 rfl) ?_
      refine xgo (n := 3058) (index := 41) hF hs hc rfl 10 (by decide) (by decide +kernel) rfl (by decide +kernel) ?_
      refine lv_iload_n (k := 2) hF.1 hF.2.1 (y_dcd_ok (by decide +kernel)) rfl (lv_at hl 0 rfl) ?_
      refine lv_aload_n (k := 0) hF.1 hF.2.1 (y_dcd_ok (by decide +kernel)) rfl (lv_at hl 1 rfl) ?_
      refine xgo (n := 3056) (index := 35) hF hs hc rfl 8 (by decide) (by decide +kernel) rfl (by decide +kernel) ?_
      refine lv_iload_n (k := 2) hF.1 hF.2.1 (y_dcd_ok (by decide +kernel)) rfl (lv_at hl 0 rfl) ?_
      refine xaldN (r := 109) hF hs hT hc (by decide) (by decide) hk7 (by decide +kernel) ?_
      refine xastN (r := 111) hF hs hT (by decide) hc (by decide) (by decide) hk7 (by decide +kernel) (fun H locs cw hs hc => ?_)
      refine lv_aload_n (k := 0) hF.1 hF.2.1 (y_dcd_ok (by decide +kernel)) rfl (lv_at hl 1 rfl) ?_
      refine xgo (n := 3059) (index := 44) hF hs hc rfl 11 (by decide) (by decide +kernel) rfl (by decide +kernel) ?_
      refine lv_iload_n (k := 2) hF.1 hF.2.1 (y_dcd_ok (by decide +kernel)) rfl (lv_at hl 0 rfl) ?_
      refine lv_aload_n (k := 0) hF.1 hF.2.1 (y_dcd_ok (by decide +kernel)) rfl (lv_at hl 1 rfl) ?_
      refine xgo (n := 3056) (index := 35) hF hs hc rfl 8 (by decide) (by decide +kernel) rfl (by decide +kernel) ?_
      refine lv_iload_n (k := 2) hF.1 hF.2.1 (y_dcd_ok (by decide +kernel)) rfl (lv_at hl 0 rfl) ?_
      refine xaldN (r := 109) hF hs hT hc (by decide) (by decide) hk7 (by decide +kernel) ?_
      refine lv_aload_n (k := 0) hF.1 hF.2.1 (y_dcd_ok (by decide +kernel)) rfl (lv_at hl 1 rfl) ?_
      refine xgo (n := 3052) (index := 23) hF hs hc rfl 4 (by decide) (by decide +kernel) rfl (by decide +kernel) ?_
      refine lv_aload_n (k := 0) hF.1 hF.2.1 (y_dcd_ok (by decide +kernel)) rfl (lv_at hl 1 rfl) ?_
      refine xgo (n := 3055) (index := 32) hF hs hc rfl 7 (by decide) (by decide +kernel) rfl (by decide +kernel) ?_
      refine lv_iload_n (k := 2) hF.1 hF.2.1 (y_dcd_ok (by decide +kernel)) rfl (lv_at hl 0 rfl) ?_
      refine xaldN (r := 108) hF hs hT hc (by decide) (by decide) hk7 (by decide +kernel) ?_
      have e9 : xup (xup V' 110 k (V' 108 k)) 111 k (xup V' 110 k (V' 108 k) 109 k) 108 k = nI t := by rw [xup_n _ _ _ (by decide), xup_n _ _ _ (by decide)]; exact e8
      rw [e9]
      refine xaldN (r := 105) hF hs hT hc (by decide) (by decide) ht (by decide +kernel) ?_
      refine lv_iadd hF.1 hF.2.1 (y_dcd_ok (by decide +kernel)) ?_
      refine xastN (r := 112) hF hs hT (by decide) hc (by decide) (by decide) hk7 (by decide +kernel) (fun H locs cw hs hc => ?_)
      refine lv_iinc (nL := 3) (i := 2) (n := 1) (k := 0) (v := nI (k + 1)) hF.1 hF.2.1 (y_dcd_ok (by decide +kernel)) hl rfl (dni_add (by omega)) (by decide) rfl (fun ls hl => ?_)
      refine lv_goto (off := (-59)) (tgt := 7) hF.1 hF.2.1 (y_dcd_ok (by decide +kernel)) (by decide) ?_
      refine ih (k + 1) (by omega) H locs cw _ ls hs ⟨hc, fun q hq => ?_, fun j u hj hu7 hu => ?_, fun j hj => ?_⟩ hl
      · rw [xup_n _ _ _ (by omega), xup_n _ _ _ (by omega), xup_n _ _ _ (by omega)]
        exact hK.r q hq
      · by_cases e : j = k
        · subst e
          have hut : u = t := by
            rw [hot] at hu
            exact (dni_inj (by omega) (by omega) hu).symm
          subst hut
          have r5 := hK.r 105 (by decide)
          have r8 := hK.r 108 (by decide)
          have r9 := hK.r 109 (by decide)
          simp [xup, upd, r5, r8, r9]
        · have := hK.a j u (by omega) hu7 hu
          simp [xup, upd, e, this]
      · have e : j ≠ k := by omega
        have := hK.bb j (by omega)
        simp [xup, upd, e, this]
  refine lv_aload_n (k := 0) hF.1 hF.2.1 (y_dcd_ok (by decide +kernel)) rfl (lv_at hl 0 rfl) ?_
  refine lv_iload_n (k := 1) hF.1 hF.2.1 (y_dcd_ok (by decide +kernel)) rfl (lv_at hl 1 rfl) ?_
  refine xpo (n := 3060) (index := 47) hF hs (by decide) hc rfl 12 (by decide) (by decide +kernel) rfl (by decide +kernel) (Nat.le_of_ble_eq_true rfl) (by decide +kernel) (fun H locs cw hs hc => ?_)
  refine lv_iconst (n := 0) (v := 0) hF.1 hF.2.1 (y_dcd_ok (by decide +kernel)) (by decide) ?_
  refine lv_istore_n (nL := 3) (k := 2) hF.1 hF.2.1 (y_dcd_ok (by decide +kernel)) rfl hl (by decide) rfl (fun ls hl => ?_)
  exact loop n 0 (by omega) H locs cw V ls hs ⟨hc, fun q _ => rfl, fun j t hj => absurd hj (Nat.not_lt_zero _), fun j _ => ⟨rfl, rfl, rfl⟩⟩ hl
end XA
