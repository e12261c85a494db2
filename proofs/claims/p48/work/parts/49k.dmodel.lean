-- the reference: later, costOf
abbrev xLat : yMR := xmr ⟨"RailwayHouseModel", "later", "(II)I"⟩ prog_14_method_166_code 2 (some .int) ⟨1, 0, 0, 60⟩ 112
abbrev xCos : yMR := xmr ⟨"RailwayHouseModel", "costOf", "()I"⟩ prog_14_method_167_code 5 (some .int) ⟨2, 0, 0, 81⟩ 12
abbrev xNex : yMR := xmr ⟨"RailwayHouseModel", "nextOrder", "()Z"⟩ prog_14_method_168_code 7 (some .boolean) ⟨1, 0, 0, 60⟩ 12
abbrev xDim : yMR := xmr ⟨"RailwayHouseModel", "dispatch", "()I"⟩ prog_14_method_169_code 5 (some .int) ⟨3, 0, 0, 105⟩ 12
/-- the reference's fields that dispatch reads -/
def dMv (ad : Nat → Nat) (n : Nat) (vs : List Value) : Prop := (vs[133]? = some (.int (nI n))) ∧ (vs[134]? = some (.ref (ad 213))) ∧ (vs[135]? = some (.ref (ad 214))) ∧ (vs[136]? = some (.ref (ad 215))) ∧ (vs[137]? = some (.ref (ad 216))) ∧ (vs[138]? = some (.ref (ad 217))) ∧ (vs[139]? = some (.ref (ad 218))) ∧ (vs[140]? = some (.ref (ad 219))) ∧ (vs[141]? = some (.ref (ad 220))) ∧ (142 < vs.length) ∧ (vs[143]? = some (.ref (ad 221))) ∧ (vs[144]? = some (.ref (ad 222))) ∧ (vs[145]? = some (.ref (ad 223)))
theorem dMv.h133 {ad : Nat → Nat} {n : Nat} {vs : List Value} (h : dMv ad n vs) : vs[133]? = some (.int (nI n)) := h.1
theorem dMv.h134 {ad : Nat → Nat} {n : Nat} {vs : List Value} (h : dMv ad n vs) : vs[134]? = some (.ref (ad 213)) := h.2.1
theorem dMv.h135 {ad : Nat → Nat} {n : Nat} {vs : List Value} (h : dMv ad n vs) : vs[135]? = some (.ref (ad 214)) := h.2.2.1
theorem dMv.h136 {ad : Nat → Nat} {n : Nat} {vs : List Value} (h : dMv ad n vs) : vs[136]? = some (.ref (ad 215)) := h.2.2.2.1
theorem dMv.h137 {ad : Nat → Nat} {n : Nat} {vs : List Value} (h : dMv ad n vs) : vs[137]? = some (.ref (ad 216)) := h.2.2.2.2.1
theorem dMv.h138 {ad : Nat → Nat} {n : Nat} {vs : List Value} (h : dMv ad n vs) : vs[138]? = some (.ref (ad 217)) := h.2.2.2.2.2.1
theorem dMv.h139 {ad : Nat → Nat} {n : Nat} {vs : List Value} (h : dMv ad n vs) : vs[139]? = some (.ref (ad 218)) := h.2.2.2.2.2.2.1
theorem dMv.h140 {ad : Nat → Nat} {n : Nat} {vs : List Value} (h : dMv ad n vs) : vs[140]? = some (.ref (ad 219)) := h.2.2.2.2.2.2.2.1
theorem dMv.h141 {ad : Nat → Nat} {n : Nat} {vs : List Value} (h : dMv ad n vs) : vs[141]? = some (.ref (ad 220)) := h.2.2.2.2.2.2.2.2.1
theorem dMv.h142 {ad : Nat → Nat} {n : Nat} {vs : List Value} (h : dMv ad n vs) : 142 < vs.length := h.2.2.2.2.2.2.2.2.2.1
theorem dMv.h143 {ad : Nat → Nat} {n : Nat} {vs : List Value} (h : dMv ad n vs) : vs[143]? = some (.ref (ad 221)) := h.2.2.2.2.2.2.2.2.2.2.1
theorem dMv.h144 {ad : Nat → Nat} {n : Nat} {vs : List Value} (h : dMv ad n vs) : vs[144]? = some (.ref (ad 222)) := h.2.2.2.2.2.2.2.2.2.2.2.1
theorem dMv.h145 {ad : Nat → Nat} {n : Nat} {vs : List Value} (h : dMv ad n vs) : vs[145]? = some (.ref (ad 223)) := h.2.2.2.2.2.2.2.2.2.2.2.2
def dRm (V : Nat → Nat → Int32) : dR := ⟨V 213, V 214, V 215, V 216, V 217⟩
/-- an order in a row -/
def dOrd (o : Nat → Int32) : List Nat → Prop
  | [] => True
  | t :: q => o q.length = nI t ∧ dOrd o q
theorem dOrd_drop {o : Nat → Int32} : ∀ {q : List Nat} (d : Nat), dOrd o q → dOrd o (q.drop d)
  | q, 0, h => by simpa using h
  | [], _ + 1, _ => trivial
  | _ :: q, d + 1, h => by simpa using dOrd_drop (q := q) d h.2
theorem dBst_pre {R : dR} {o b f : Nat → Int32} : ∀ {q : List Nat}, dBst R o b f q → dPre R o b q
  | [], _ => trivial
  | _ :: _, h => ⟨⟨h.1.1, h.1.2.1⟩, dBst_pre h.2⟩
theorem dBst_eq {R : dR} {o b f o' b' f' : Nat → Int32} : ∀ {q : List Nat}, (∀ j, j < q.length → o' j = o j ∧ b' j = b j ∧ f' j = f j) → dBst R o b f q → dBst R o' b' f' q
  | [], _, _ => trivial
  | t :: q, h, hp => by
    obtain ⟨h1, h2, h3⟩ := h q.length (by simp)
    exact ⟨⟨by rw [h1]; exact hp.1.1, by rw [h2]; exact hp.1.2.1, by rw [h3]; exact hp.1.2.2⟩, dBst_eq (fun j hj => h j (by simp; omega)) hp.2⟩
section XD
variable {l : Launch} {D : va_G} {b : Nat → Nat} {cw cw0 : va_W} {tys : List (ClassId × FieldType)} {sz : Nat} {ad : Nat → Nat} {cI : Nat → ClassId} {V : Nat → Nat → Int32}
theorem dM_lat (x y : Int32) : Met l (y_y xLat) (y_ws ztb xLat) (y_rm xLat) (y_Pc znw b zcls D cw tys sz [.int x, .int y]) (y_Q zcls D (fun cw' tys' rv => rv = some (.int (dmx x y)) ∧ tys' = tys ∧ cw' = cw) cw sz) 0 0 (va_A cw sz) := by
  refine xMet (tb := ytb yw00) (mr := xLat) yo_ym104 (fun x hx => by cases hx) (Nat.le_of_ble_eq_true rfl) ?_
  intro p e s m below meth c Q ls hsz hF hs hl kv ki
  have hl : lv_has ls 2 [(0, .int x), (1, .int y)] := hl
  have hd := dmx_later x y
  refine lv_iload_n (k := 0) hF.1 hF.2.1 (y_dcd_ok (by decide +kernel)) rfl (lv_at hl 0 rfl) ?_
  refine lv_iload_n (k := 1) hF.1 hF.2.1 (y_dcd_ok (by decide +kernel)) rfl (lv_at hl 1 rfl) ?_
  refine lv_icmp_le (off := 7) (tgt := 9) hF.1 hF.2.1 (y_dcd_ok (by decide +kernel)) (by decide) (fun hq => ?_) (fun hq => ?_)
  · rw [if_pos hq] at hd
    refine lv_iload_n (k := 1) hF.1 hF.2.1 (y_dcd_ok (by decide +kernel)) rfl (lv_at hl 1 rfl) ?_
    exact ki _ _ cw tys ls _ _ .int rfl rfl (by decide +kernel) hs ⟨by rw [← hd], rfl, rfl⟩
  · rw [if_neg hq] at hd
    refine lv_iload_n (k := 0) hF.1 hF.2.1 (y_dcd_ok (by decide +kernel)) rfl (lv_at hl 0 rfl) ?_
    refine lv_goto (off := 4) (tgt := 10) hF.1 hF.2.1 (y_dcd_ok (by decide +kernel)) (by decide) ?_
    exact ki _ _ cw tys ls 10 _ .int rfl rfl (by decide +kernel) hs ⟨by rw [← hd], rfl, rfl⟩
set_option maxHeartbeats 4000000 in
theorem dM_cos {n : Nat} (hn : n ≤ 7) {vs : List Value} (hv : dMv ad n vs) (hT : xT 213 224 cI tys) (hc : xc 114 12 213 224 ad cI cw0 V vs cw) {q : List Nat} (hql : q.length = n) (hq7 : ∀ t ∈ q, t < 7) (hO : dOrd (V 218) q) : Met l (y_y xCos) (y_ws ztb xCos) (y_rm xCos) (y_Pc znw b zcls D cw tys sz [.ref (ad 114)]) (y_Q zcls D (fun cw' tys' rv => rv = some (.int (dco (dRm V) q)) ∧ tys' = tys ∧ ∃ V', xc 114 12 213 224 ad cI cw0 V' vs cw' ∧ (∀ r, r ≠ 219 → r ≠ 220 → V' r = V r) ∧ dBst (dRm V) (V' 218) (V' 219) (V' 220) q) cw sz) 0 0 (va_A cw sz) := by
  refine xMet (tb := ytb yw00) (mr := xCos) yo_yr199 (fun x hx => by cases hx) (Nat.le_of_ble_eq_true rfl) ?_
  intro p e s m below meth c Q ls hsz hF hs hl kv ki
  have hl : lv_has ls 5 [(0, .ref (ad 114))] := hl
  generalize va_A cw sz = A at *
  have loop : ∀ (d : Nat), d ≤ n → ∀ (H : Heap) (locs : List Loc) (cw : va_W) (V1 : Nat → Nat → Int32) (ls : Array Slot), xs D s A H locs cw tys → xc 114 12 213 224 ad cI cw0 V1 vs cw → (∀ r, r ≠ 219 → r ≠ 220 → V1 r = V r) → dBst (dRm V) (V1 218) (V1 219) (V1 220) (q.drop d) → lv_has ls 5 [(2, .int (nI (n - d))), (1, .int (dco (dRm V) (q.drop d))), (0, .ref (ad 114))] → W p l e (y_rm xCos) s m [Value.ref (ad 114)].toArray below meth c H locs 0 0 Q (F0 m 4 ls []) := by
    intro d
    induction d with
    | zero =>
      intro hd H locs cw V1 ls hs hc hk hb hl
      refine lv_iload_n (k := 2) hF.1 hF.2.1 (y_dcd_ok (by decide +kernel)) rfl (lv_at hl 0 rfl) ?_
      refine lv_aload_n (k := 0) hF.1 hF.2.1 (y_dcd_ok (by decide +kernel)) rfl (lv_at hl 2 rfl) ?_
      refine xgo (n := 9003) (index := 850) hF hs hc rfl 133 (by decide) (by decide +kernel) hv.h133 (by decide +kernel) ?_
      refine lv_icmp_ge (off := 159) (tgt := 168) hF.1 hF.2.1 (y_dcd_ok (by decide +kernel)) (by decide) (fun hq => ?_) (fun hq => ?_)
      · rw [List.drop_zero] at hl hb
        refine lv_iload_n (k := 1) hF.1 hF.2.1 (y_dcd_ok (by decide +kernel)) rfl (lv_at hl 1 rfl) ?_
        exact ki _ _ cw tys ls _ _ .int rfl rfl (by decide +kernel) hs ⟨rfl, rfl, V1, hc, hk, hb⟩
      · exact absurd ((dni_le (by omega) (by omega)).mpr (by omega)) hq
    | succ d ih =>
      intro hd H locs cw V1 ls hs hc hk hb hl
      have hdl : d < q.length := by omega
      obtain ⟨t, ps, ht, hps, hdr⟩ : ∃ t ps, q.drop d = t :: ps ∧ q.drop (d + 1) = ps ∧ t ∈ q := ⟨q[d], q.drop (d + 1), List.drop_eq_getElem_cons hdl, rfl, List.getElem_mem hdl⟩
      have ht7 := hq7 t hdr
      rw [hps] at hb hl
      have hpl : ps.length = n - (d + 1) := by rw [← hps, List.length_drop]; omega
      rw [← hpl] at hl
      have hl7 : ps.length < 7 := by omega
      have hot : V1 218 ps.length = nI t := by
        have := dOrd_drop d hO
        rw [ht] at this
        rw [hk 218 (by decide) (by decide)]
        exact this.1
      have hpm : ∀ u ∈ ps, u < 7 := fun u hu => hq7 u (List.mem_of_mem_drop (i := d + 1) (by rw [hps]; exact hu))
      have z3 : V1 213 = V 213 := hk 213 (by decide) (by decide)
      have z4 : V1 214 = V 214 := hk 214 (by decide) (by decide)
      have z5 : V1 215 = V 215 := hk 215 (by decide) (by decide)
      have z6 : V1 216 = V 216 := hk 216 (by decide) (by decide)
      have z7 : V1 217 = V 217 := hk 217 (by decide) (by decide)
      have tail : ∀ (H : Heap) (locs : List Loc) (ls : Array Slot), xs D s A H locs cw tys → lv_has ls 5 [(4, .int (dbg (dRm V) (t :: ps))), (3, .int (nI t)), (2, .int (nI ps.length)), (1, .int (dco (dRm V) ps)), (0, .ref (ad 114))] → W p l e (y_rm xCos) s m [Value.ref (ad 114)].toArray below meth c H locs 0 0 Q (F0 m 112 ls []) := by
        intro H locs ls hs hl
        refine lv_aload_n (k := 0) hF.1 hF.2.1 (y_dcd_ok (by decide +kernel)) rfl (lv_at hl 4 rfl) ?_
        refine xgo (n := 9010) (index := 325) hF hs hc rfl 140 (by decide) (by decide +kernel) hv.h140 (by decide +kernel) ?_
        refine lv_iload_n (k := 2) hF.1 hF.2.1 (y_dcd_ok (by decide +kernel)) rfl (lv_at hl 2 rfl) ?_
        refine lv_iload (i := 4) hF.1 hF.2.1 (y_dcd_ok (by decide +kernel)) (lv_at hl 0 rfl) ?_
        refine xastN (r := 219) hF hs hT (by decide) hc (by decide) (by decide) hl7 (by decide +kernel) (fun H locs cw hs hc => ?_)
        obtain ⟨V2, hV2⟩ : ∃ V2, V2 = xup V1 219 ps.length (dbg (dRm V) (t :: ps)) := ⟨_, rfl⟩
        rw [← hV2] at hc
        have q2 : ∀ r, r ≠ 219 → V2 r = V1 r := fun r hr => by rw [hV2, xup_n _ _ _ hr]
        refine lv_aload_n (k := 0) hF.1 hF.2.1 (y_dcd_ok (by decide +kernel)) rfl (lv_at hl 4 rfl) ?_
        refine xgo (n := 9011) (index := 328) hF hs hc rfl 141 (by decide) (by decide +kernel) hv.h141 (by decide +kernel) ?_
        refine lv_iload_n (k := 2) hF.1 hF.2.1 (y_dcd_ok (by decide +kernel)) rfl (lv_at hl 2 rfl) ?_
        refine lv_iload (i := 4) hF.1 hF.2.1 (y_dcd_ok (by decide +kernel)) (lv_at hl 0 rfl) ?_
        refine lv_aload_n (k := 0) hF.1 hF.2.1 (y_dcd_ok (by decide +kernel)) rfl (lv_at hl 4 rfl) ?_
        refine xgo (n := 9006) (index := 313) hF hs hc rfl 136 (by decide) (by decide +kernel) hv.h136 (by decide +kernel) ?_
        refine lv_iload_n (k := 3) hF.1 hF.2.1 (y_dcd_ok (by decide +kernel)) rfl (lv_at hl 1 rfl) ?_
        refine xaldN (r := 215) hF hs hT hc (by decide) (by decide) ht7 (by decide +kernel) ?_
        rw [q2 215 (by decide), z5]
        refine lv_iadd hF.1 hF.2.1 (y_dcd_ok (by decide +kernel)) ?_
        refine xastN (r := 220) hF hs hT (by decide) hc (by decide) (by decide) hl7 (by decide +kernel) (fun H locs cw hs hc => ?_)
        obtain ⟨V3, hV3⟩ : ∃ V3, V3 = xup V2 220 ps.length (dbg (dRm V) (t :: ps) + V 215 t) := ⟨_, rfl⟩
        rw [← hV3] at hc
        have q3 : ∀ r, r ≠ 220 → V3 r = V2 r := fun r hr => by rw [hV3, xup_n _ _ _ hr]
        have q3e : V3 220 ps.length = dbg (dRm V) (t :: ps) + V 215 t := by rw [hV3, xup_s]; simp [upd]
        refine lv_iload_n (k := 1) hF.1 hF.2.1 (y_dcd_ok (by decide +kernel)) rfl (lv_at hl 3 rfl) ?_
        refine lv_aload_n (k := 0) hF.1 hF.2.1 (y_dcd_ok (by decide +kernel)) rfl (lv_at hl 4 rfl) ?_
        refine xgo (n := 9008) (index := 319) hF hs hc rfl 138 (by decide) (by decide +kernel) hv.h138 (by decide +kernel) ?_
        refine lv_iload_n (k := 3) hF.1 hF.2.1 (y_dcd_ok (by decide +kernel)) rfl (lv_at hl 1 rfl) ?_
        refine xaldN (r := 217) hF hs hT hc (by decide) (by decide) ht7 (by decide +kernel) ?_
        rw [q3 217 (by decide), q2 217 (by decide), z7]
        refine lv_iconst (n := 0) (v := 0) hF.1 hF.2.1 (y_dcd_ok (by decide +kernel)) (by decide) ?_
        refine lv_aload_n (k := 0) hF.1 hF.2.1 (y_dcd_ok (by decide +kernel)) rfl (lv_at hl 4 rfl) ?_
        refine xgo (n := 9011) (index := 328) hF hs hc rfl 141 (by decide) (by decide +kernel) hv.h141 (by decide +kernel) ?_
        refine lv_iload_n (k := 2) hF.1 hF.2.1 (y_dcd_ok (by decide +kernel)) rfl (lv_at hl 2 rfl) ?_
        refine xaldN (r := 220) hF hs hT hc (by decide) (by decide) hl7 (by decide +kernel) ?_
        rw [q3e]
        refine lv_aload_n (k := 0) hF.1 hF.2.1 (y_dcd_ok (by decide +kernel)) rfl (lv_at hl 4 rfl) ?_
        refine xgo (n := 9007) (index := 316) hF hs hc rfl 137 (by decide) (by decide +kernel) hv.h137 (by decide +kernel) ?_
        refine lv_iload_n (k := 3) hF.1 hF.2.1 (y_dcd_ok (by decide +kernel)) rfl (lv_at hl 1 rfl) ?_
        refine xaldN (r := 216) hF hs hT hc (by decide) (by decide) ht7 (by decide +kernel) ?_
        rw [q3 216 (by decide), q2 216 (by decide), z6]
        refine lv_isub hF.1 hF.2.1 (y_dcd_ok (by decide +kernel)) ?_
        refine xcallS (As := [.int _, .int _]) (rest := [.int (V 217 t), .int (dco (dRm V) ps)]) (n := 12232) (j := 853) hF hs hl.1 (cm := xLat) yo_ym104 (by decide) (by decide +kernel) (show _ = some 2 from by decide +kernel) (by decide +kernel) ⟨by decide, by decide⟩ ⟨rfl, rfl⟩ (Nat.le_of_ble_eq_true rfl) ⟨Nat.zero_le _, Nat.zero_le _⟩ (dM_lat _ _) (fun H1 locs1 cw1 tys1 rv hs hX => ?_)
        obtain ⟨e1, e2, e3⟩ := hX
        subst e1
        rw [e2, e3] at hs
        show W _ _ _ _ _ _ _ _ _ _ _ _ _ _ _ (F0 m 159 ls (.int (dmx 0 (dbg (dRm V) (t :: ps) + V 215 t - V 216 t)) :: [.int (V 217 t), .int (dco (dRm V) ps)]))
        refine lv_imul hF.1 hF.2.1 (y_dcd_ok (by decide +kernel)) ?_
        refine lv_iadd hF.1 hF.2.1 (y_dcd_ok (by decide +kernel)) ?_
        refine lv_istore_n (nL := 5) (k := 1) hF.1 hF.2.1 (y_dcd_ok (by decide +kernel)) rfl hl (by decide) rfl (fun ls hl => ?_)
        refine lv_iinc (nL := 5) (i := 2) (n := 1) (k := 3) (v := nI (ps.length + 1)) hF.1 hF.2.1 (y_dcd_ok (by decide +kernel)) hl rfl (dni_add (by omega)) (by decide) rfl (fun ls hl => ?_)
        refine lv_goto (off := (-161)) (tgt := 4) hF.1 hF.2.1 (y_dcd_ok (by decide +kernel)) (by decide) ?_
        refine ih (by omega) _ _ cw V3 ls hs hc (fun r h1 h2 => by rw [q3 r h2, q2 r h1]; exact hk r h1 h2) ?_ (lv_sub (l' := _) hl [0, 1, 4] ?_)
        · rw [ht]
          refine ⟨⟨by rw [q3 218 (by decide), q2 218 (by decide)]; exact hot, by rw [q3 219 (by decide), hV2, xup_s]; simp [upd], q3e⟩, dBst_eq (fun j hj => ⟨by rw [q3 218 (by decide), q2 218 (by decide)], ?_, ?_⟩) hb⟩
          · rw [q3 219 (by decide), hV2, xup_s]
            have : j ≠ ps.length := by omega
            simp [upd, this]
          · rw [hV3, xup_s]
            have : j ≠ ps.length := by omega
            simp [upd, this, q2]
        · rw [ht, show n - d = ps.length + 1 by omega, show dco (dRm V) (t :: ps) = dco (dRm V) ps + V 217 t * dmx 0 (dbg (dRm V) (t :: ps) + V 215 t - V 216 t) from by rw [dmx_comm]; rfl]
          rfl
      refine lv_iload_n (k := 2) hF.1 hF.2.1 (y_dcd_ok (by decide +kernel)) rfl (lv_at hl 0 rfl) ?_
      refine lv_aload_n (k := 0) hF.1 hF.2.1 (y_dcd_ok (by decide +kernel)) rfl (lv_at hl 2 rfl) ?_
      refine xgo (n := 9003) (index := 850) hF hs hc rfl 133 (by decide) (by decide +kernel) hv.h133 (by decide +kernel) ?_
      refine lv_icmp_ge (off := 159) (tgt := 168) hF.1 hF.2.1 (y_dcd_ok (by decide +kernel)) (by decide) (fun hq => ?_) (fun hq => ?_)
      · exact absurd ((dni_le (by omega) (by omega)).mp hq) (by omega)
      refine lv_aload_n (k := 0) hF.1 hF.2.1 (y_dcd_ok (by decide +kernel)) rfl (lv_at hl 2 rfl) ?_
      refine xgo (n := 9009) (index := 322) hF hs hc rfl 139 (by decide) (by decide +kernel) hv.h139 (by decide +kernel) ?_
      refine lv_iload_n (k := 2) hF.1 hF.2.1 (y_dcd_ok (by decide +kernel)) rfl (lv_at hl 0 rfl) ?_
      refine xaldN (r := 218) hF hs hT hc (by decide) (by decide) hl7 (by decide +kernel) ?_
      rw [hot]
      refine lv_istore_n (nL := 5) (k := 3) hF.1 hF.2.1 (y_dcd_ok (by decide +kernel)) rfl hl (by decide) rfl (fun ls hl => ?_)
      refine lv_aload_n (k := 0) hF.1 hF.2.1 (y_dcd_ok (by decide +kernel)) rfl (lv_at hl 3 rfl) ?_
      refine xgo (n := 9005) (index := 310) hF hs hc rfl 135 (by decide) (by decide +kernel) hv.h135 (by decide +kernel) ?_
      refine lv_iload_n (k := 3) hF.1 hF.2.1 (y_dcd_ok (by decide +kernel)) rfl (lv_at hl 0 rfl) ?_
      refine xaldN (r := 214) hF hs hT hc (by decide) (by decide) ht7 (by decide +kernel) ?_
      rw [z4]
      refine lv_istore (nL := 5) (i := 4) hF.1 hF.2.1 (y_dcd_ok (by decide +kernel)) hl (by decide) rfl (fun ls hl => ?_)
      refine lv_iload_n (k := 2) hF.1 hF.2.1 (y_dcd_ok (by decide +kernel)) rfl (lv_at hl 2 rfl) ?_
      refine lv_if_le (off := 65) (tgt := 93) hF.1 hF.2.1 (y_dcd_ok (by decide +kernel)) (by decide) (fun hq => ?_) (fun hq => ?_)
      · have e0 : ps = [] := by
          cases ps with
          | nil => rfl
          | cons u r =>
            have := (dni_le (i := (u :: r).length) (j := 0) (by omega) (by decide)).mp hq
            simp at this
        refine lv_iload_n (k := 2) hF.1 hF.2.1 (y_dcd_ok (by decide +kernel)) rfl (lv_at hl 2 rfl) ?_
        refine lv_if_le (off := 18) (tgt := 112) hF.1 hF.2.1 (y_dcd_ok (by decide +kernel)) (by decide) (fun hq => ?_) (fun hq => ?_)
        · exact tail _ _ ls hs (by subst e0; exact lv_sub hl [0, 1, 2, 3, 4] rfl)
        · exact absurd (by rw [e0]; decide) hq
      obtain ⟨pv, r, hpr⟩ : ∃ pv r, ps = pv :: r := by
        cases ps with
        | nil => exact absurd (by decide) hq
        | cons u r => exact ⟨u, r, rfl⟩
      have hpv := hpm pv (by rw [hpr]; exact List.mem_cons_self)
      have hr7 : r.length < 7 := by rw [hpr] at hl7; simp only [List.length_cons] at hl7; omega
      have er : nI ps.length - 1 = nI r.length := by rw [hpr]; exact dni_sub (by omega)
      rw [hpr] at hb
      obtain ⟨⟨b1, b2, b3⟩, _⟩ := id hb
      refine lv_aload_n (k := 0) hF.1 hF.2.1 (y_dcd_ok (by decide +kernel)) rfl (lv_at hl 4 rfl) ?_
      refine xgo (n := 9004) (index := 307) hF hs hc rfl 134 (by decide) (by decide +kernel) hv.h134 (by decide +kernel) ?_
      refine lv_iload_n (k := 3) hF.1 hF.2.1 (y_dcd_ok (by decide +kernel)) rfl (lv_at hl 1 rfl) ?_
      refine xaldN (r := 213) hF hs hT hc (by decide) (by decide) ht7 (by decide +kernel) ?_
      rw [z3]
      refine lv_aload_n (k := 0) hF.1 hF.2.1 (y_dcd_ok (by decide +kernel)) rfl (lv_at hl 4 rfl) ?_
      refine xgo (n := 9004) (index := 307) hF hs hc rfl 134 (by decide) (by decide +kernel) hv.h134 (by decide +kernel) ?_
      refine lv_aload_n (k := 0) hF.1 hF.2.1 (y_dcd_ok (by decide +kernel)) rfl (lv_at hl 4 rfl) ?_
      refine xgo (n := 9009) (index := 322) hF hs hc rfl 139 (by decide) (by decide +kernel) hv.h139 (by decide +kernel) ?_
      refine lv_iload_n (k := 2) hF.1 hF.2.1 (y_dcd_ok (by decide +kernel)) rfl (lv_at hl 2 rfl) ?_
      refine lv_iconst (n := 1) (v := 1) hF.1 hF.2.1 (y_dcd_ok (by decide +kernel)) (by decide) ?_
      refine lv_isub hF.1 hF.2.1 (y_dcd_ok (by decide +kernel)) ?_
      rw [er]
      refine xaldN (r := 218) hF hs hT hc (by decide) (by decide) hr7 (by decide +kernel) ?_
      rw [b1]
      refine xaldN (r := 213) hF hs hT hc (by decide) (by decide) hpv (by decide +kernel) ?_
      rw [z3]
      refine lv_icmp_ne (off := 43) (tgt := 93) hF.1 hF.2.1 (y_dcd_ok (by decide +kernel)) (by decide) (fun hq => ?_) (fun hq => ?_)
      · have hw : ¬ (dRm V).w pv = (dRm V).w t := fun z => hq z.symm
        refine lv_iload_n (k := 2) hF.1 hF.2.1 (y_dcd_ok (by decide +kernel)) rfl (lv_at hl 2 rfl) ?_
        refine lv_if_le (off := 18) (tgt := 112) hF.1 hF.2.1 (y_dcd_ok (by decide +kernel)) (by decide) (fun hq => ?_) (fun hq => ?_)
        · exact absurd ((dni_le (i := ps.length) (j := 0) (by omega) (by decide)).mp hq) (by rw [hpr]; simp)
        refine lv_iload (i := 4) hF.1 hF.2.1 (y_dcd_ok (by decide +kernel)) (lv_at hl 0 rfl) ?_
        refine lv_aload_n (k := 0) hF.1 hF.2.1 (y_dcd_ok (by decide +kernel)) rfl (lv_at hl 4 rfl) ?_
        refine xgo (n := 9011) (index := 328) hF hs hc rfl 141 (by decide) (by decide +kernel) hv.h141 (by decide +kernel) ?_
        refine lv_iload_n (k := 2) hF.1 hF.2.1 (y_dcd_ok (by decide +kernel)) rfl (lv_at hl 2 rfl) ?_
        refine lv_iconst (n := 1) (v := 1) hF.1 hF.2.1 (y_dcd_ok (by decide +kernel)) (by decide) ?_
        refine lv_isub hF.1 hF.2.1 (y_dcd_ok (by decide +kernel)) ?_
        rw [er]
        refine xaldN (r := 220) hF hs hT hc (by decide) (by decide) hr7 (by decide +kernel) ?_
        rw [b3]
        refine xcallS (As := [.int _, .int _]) (rest := []) (n := 12232) (j := 853) hF hs hl.1 (cm := xLat) yo_ym104 (by decide) (by decide +kernel) (show _ = some 2 from by decide +kernel) (by decide +kernel) ⟨by decide, by decide⟩ ⟨rfl, rfl⟩ (Nat.le_of_ble_eq_true rfl) ⟨Nat.zero_le _, Nat.zero_le _⟩ (dM_lat _ _) (fun H1 locs1 cw1 tys1 rv hs hX => ?_)
        obtain ⟨e1, e2, e3⟩ := hX
        subst e1
        rw [e2, e3] at hs
        show W _ _ _ _ _ _ _ _ _ _ _ _ _ _ _ (F0 m 110 ls (.int (dmx (V 214 t) (dbg (dRm V) (pv :: r) + (dRm V).k pv)) :: []))
        refine lv_istore (nL := 5) (i := 4) hF.1 hF.2.1 (y_dcd_ok (by decide +kernel)) hl (by decide) rfl (fun ls hl => ?_)
        refine tail _ _ ls hs (lv_sub hl [0, 1, 2, 3, 4] ?_)
        rw [hpr, show dbg (dRm V) (t :: pv :: r) = dmx (V 214 t) (dbg (dRm V) (pv :: r) + (dRm V).k pv) from if_neg hw]
        rfl
      have hw : (dRm V).w pv = (dRm V).w t := hq.symm
      refine lv_iload (i := 4) hF.1 hF.2.1 (y_dcd_ok (by decide +kernel)) (lv_at hl 0 rfl) ?_
      refine lv_aload_n (k := 0) hF.1 hF.2.1 (y_dcd_ok (by decide +kernel)) rfl (lv_at hl 4 rfl) ?_
      refine xgo (n := 9010) (index := 325) hF hs hc rfl 140 (by decide) (by decide +kernel) hv.h140 (by decide +kernel) ?_
      refine lv_iload_n (k := 2) hF.1 hF.2.1 (y_dcd_ok (by decide +kernel)) rfl (lv_at hl 2 rfl) ?_
      refine lv_iconst (n := 1) (v := 1) hF.1 hF.2.1 (y_dcd_ok (by decide +kernel)) (by decide) ?_
      refine lv_isub hF.1 hF.2.1 (y_dcd_ok (by decide +kernel)) ?_
      rw [er]
      refine xaldN (r := 219) hF hs hT hc (by decide) (by decide) hr7 (by decide +kernel) ?_
      rw [b2]
      refine lv_iconst (n := 3) (v := 3) hF.1 hF.2.1 (y_dcd_ok (by decide +kernel)) (by decide) ?_
      refine lv_iadd hF.1 hF.2.1 (y_dcd_ok (by decide +kernel)) ?_
      refine xcallS (As := [.int _, .int _]) (rest := []) (n := 12232) (j := 853) hF hs hl.1 (cm := xLat) yo_ym104 (by decide) (by decide +kernel) (show _ = some 2 from by decide +kernel) (by decide +kernel) ⟨by decide, by decide⟩ ⟨rfl, rfl⟩ (Nat.le_of_ble_eq_true rfl) ⟨Nat.zero_le _, Nat.zero_le _⟩ (dM_lat _ _) (fun H1 locs1 cw1 tys1 rv hs hX => ?_)
      obtain ⟨e1, e2, e3⟩ := hX
      subst e1
      rw [e2, e3] at hs
      show W _ _ _ _ _ _ _ _ _ _ _ _ _ _ _ (F0 m 68 ls (.int (dmx (V 214 t) (dbg (dRm V) (pv :: r) + 3)) :: []))
      refine lv_aload_n (k := 0) hF.1 hF.2.1 (y_dcd_ok (by decide +kernel)) rfl (lv_at hl 4 rfl) ?_
      refine xgo (n := 9011) (index := 328) hF hs hc rfl 141 (by decide) (by decide +kernel) hv.h141 (by decide +kernel) ?_
      refine lv_iload_n (k := 2) hF.1 hF.2.1 (y_dcd_ok (by decide +kernel)) rfl (lv_at hl 2 rfl) ?_
      refine lv_iconst (n := 1) (v := 1) hF.1 hF.2.1 (y_dcd_ok (by decide +kernel)) (by decide) ?_
      refine lv_isub hF.1 hF.2.1 (y_dcd_ok (by decide +kernel)) ?_
      rw [er]
      refine xaldN (r := 220) hF hs hT hc (by decide) (by decide) hr7 (by decide +kernel) ?_
      rw [b3]
      refine lv_iconst (n := 3) (v := 3) hF.1 hF.2.1 (y_dcd_ok (by decide +kernel)) (by decide) ?_
      refine lv_iadd hF.1 hF.2.1 (y_dcd_ok (by decide +kernel)) ?_
      refine lv_aload_n (k := 0) hF.1 hF.2.1 (y_dcd_ok (by decide +kernel)) rfl (lv_at hl 4 rfl) ?_
      refine xgo (n := 9006) (index := 313) hF hs hc rfl 136 (by decide) (by decide +kernel) hv.h136 (by decide +kernel) ?_
      refine lv_iload_n (k := 3) hF.1 hF.2.1 (y_dcd_ok (by decide +kernel)) rfl (lv_at hl 1 rfl) ?_
      refine xaldN (r := 215) hF hs hT hc (by decide) (by decide) ht7 (by decide +kernel) ?_
      rw [z5]
      refine lv_isub hF.1 hF.2.1 (y_dcd_ok (by decide +kernel)) ?_
      refine xcallS (As := [.int _, .int _]) (rest := []) (n := 12232) (j := 853) hF hs hl.1 (cm := xLat) yo_ym104 (by decide) (by decide +kernel) (show _ = some 2 from by decide +kernel) (by decide +kernel) ⟨by decide, by decide⟩ ⟨rfl, rfl⟩ (Nat.le_of_ble_eq_true rfl) ⟨Nat.zero_le _, Nat.zero_le _⟩ (dM_lat _ _) (fun H1 locs1 cw1 tys1 rv hs hX => ?_)
      obtain ⟨e1, e2, e3⟩ := hX
      subst e1
      rw [e2, e3] at hs
      show W _ _ _ _ _ _ _ _ _ _ _ _ _ _ _ (F0 m 88 ls (.int (dmx (dmx (V 214 t) (dbg (dRm V) (pv :: r) + 3)) (dbg (dRm V) (pv :: r) + (dRm V).k pv + 3 - V 215 t)) :: []))
      refine lv_istore (nL := 5) (i := 4) hF.1 hF.2.1 (y_dcd_ok (by decide +kernel)) hl (by decide) rfl (fun ls hl => ?_)
      refine lv_goto (off := 22) (tgt := 112) hF.1 hF.2.1 (y_dcd_ok (by decide +kernel)) (by decide) ?_
      refine tail _ _ ls hs (lv_sub hl [0, 1, 2, 3, 4] ?_)
      rw [hpr, show dbg (dRm V) (t :: pv :: r) = dmx (dmx (V 214 t) (dbg (dRm V) (pv :: r) + 3)) (dbg (dRm V) (pv :: r) + (dRm V).k pv + 3 - V 215 t) from by rw [dmx_assoc]; exact if_pos hw]
      rfl
  refine lv_iconst (n := 0) (v := 0) hF.1 hF.2.1 (y_dcd_ok (by decide +kernel)) (by decide) ?_
  refine lv_istore_n (nL := 5) (k := 1) hF.1 hF.2.1 (y_dcd_ok (by decide +kernel)) rfl hl (by decide) rfl (fun ls hl => ?_)
  refine lv_iconst (n := 0) (v := 0) hF.1 hF.2.1 (y_dcd_ok (by decide +kernel)) (by decide) ?_
  refine lv_istore_n (nL := 5) (k := 2) hF.1 hF.2.1 (y_dcd_ok (by decide +kernel)) rfl hl (by decide) rfl (fun ls hl => ?_)
  refine loop n (Nat.le_refl _) _ _ cw V ls hs hc (fun _ _ _ => rfl) (by rw [← hql, List.drop_length]; trivial) (lv_sub hl [0, 1, 2] ?_)
  rw [← hql, List.drop_length, Nat.sub_self]
  rfl
end XD
