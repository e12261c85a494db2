-- a call by hand, with arguments, with room for cells
section YX
variable {wt : zTB} {nw : List Jvm.Cond} {cls : List vw_C} {tb : yTb} {l : Launch} {D : va_G} {b : Nat → Nat}
variable {p : Program} {e : Env} {R : Room} {s : State} {m : MethodId} {args : Array Value} {below : List Frame} {meth : Method} {c : Code} {A : Nat → Prop} {ce sl : Nat} {mr : yMR} {Q : State → Prop}
variable {H : Heap} {locs : List Loc} {cw : va_W} {tys : List (ClassId × FieldType)} {tg : List yC} {ls : Array Slot}
theorem y_callX (hF : y_Fix wt nw b cls tb p R s m args meth c A mr) (hK : va_K D cls tys s) (hP : va_P D cls cw H) (hD : va_D A cw) (hS0 : va_S A s.heap H locs) (hW : y_WT tb cls tys tg cw) (hls : ls.size = y_mL mr) {q j : Nat} {cn : yCN} (hM : y_okM wt cls cn.1) (hlink : Jvm.Cond.methodLink (y_y mr).cls j (y_y cn.1) ∈ z_G wt) (hci : y_ci cn.1 < 99) {As rest : List Value} (hdesc : (parseMethodDescriptor (y_y cn.1).desc).map (fun d => d.parameters.length) = some As.length) (hdg : decode (y_cc mr) q = .ok (.invokevirtual j, 3)) {o a : Nat} (hoa : (cw.map Prod.fst)[o]? = some a) {ts : List yT} (hto : tg[o]? = some (.inl (y_ci cn.1, ts))) (hRm : (y_rm cn.1).frames + 1 ≤ R.frames ∧ 8 + (y_mL cn.1 + 11) + (y_rm cn.1).locals ≤ R.locals) (hrest : (rest.map fun v => v.category).sum ≤ 8) (hcs : ce + (y_rm cn.1).cells ≤ R.cells ∧ sl + (y_rm cn.1).slots ≤ R.slots) {X : va_W → List (ClassId × FieldType) → Option Value → Prop}
    (hMet : Met l (y_y cn.1) (y_ws wt cn.1) (y_rm cn.1) (y_Pc nw b cls D cw tys H.size (.ref a :: As)) (y_Q cls D X cw H.size) (y_rm cn.1).cells (y_rm cn.1).slots (va_A cw H.size))
    (kk : ∀ (H1 : Heap) (locs1 : List Loc) (cw' : va_W) (tys' : List (ClassId × FieldType)) (rv : Option Value), va_K D cls tys' s → va_P D cls cw' H1 → va_D A cw' → va_S A s.heap H1 locs1 → X cw' tys' rv → W p l e R s m args below meth c H1 locs1 (ce + (y_rm cn.1).cells) (sl + (y_rm cn.1).slots) Q (F0 m (q + 3) ls (rv.toList ++ rest))) : W p l e R s m args below meth c H locs ce sl Q (F0 m q ls (As.reverse ++ .ref a :: rest)) := by
  obtain ⟨hx, hb, hml, hown, hts, hR, hN, hA0, hok⟩ := id hF
  obtain ⟨m1, m2, m3, m4, m5, m6⟩ := hM
  obtain ⟨⟨m8, m9⟩, _, m10⟩ := m5 (by omega)
  obtain ⟨cq, m10, m11⟩ := m10 hci
  obtain ⟨vs, u2, _⟩ := y_cobj (ρ := ([], fun _ => none, cw.map Prod.fst, tg)) hW rfl hoa hto
  have hpre := y_PreS hF (y_St0 (K := fun _ => True) hK hP hD hS0 hW trivial (y_same_refl _ _ _)) (.ref a :: As)
  refine z_goon (va_runV (As := As) (rest := rest) (C := (y_y cn.1).cls) ⟨hx, hb, hml, hown, hts⟩ hMet (cwV As.length hts (y_goodV m1 hlink m8 m9 m2) rfl rfl rfl ⟨rfl, m4.1, m4.2, hdesc⟩ hRm) ⟨hpre.1, by rw [← m11]; exact va_recv hK hP m10 u2, hpre.2⟩ rfl rfl hls rfl (lv_room hrest) hdg hcs) ?_
  intro v st₀ t1 H1 locs1 e0 e1 hvm hq hloc
  obtain ⟨⟨cw', tys', rv, q1, q2, q3, q4, q5⟩, hz, hk⟩ := hq
  have q1 : v = rv := by cases q1; rfl
  subst q1
  rw [e0] at hz hk
  have hfree : ∀ q, va_A cw H.size q → A q := by
    intro q h
    rcases h with ⟨k, x, h⟩ | h
    · exact hD.2 k _ h
    · exact hA0 q (Nat.le_trans hS0.1 h)
  refine kk H1 locs1 cw' tys' v (va_K.moved hvm.symm q3) (by rw [← e1]; exact q2) (q4.weaken (fun k q _ h => hfree q.1 h)) ⟨Nat.le_trans hS0.1 (by rw [← e1]; exact hz), fun q h1 h2 => ?_, fun q h => ?_⟩ q5
  · rw [← e1, hk q (Nat.lt_of_lt_of_le h1 hS0.1) (fun z => h2 (hfree q z))]
    exact hS0.2.1 q h1 h2
  · rcases hloc q h with h | h
    · exact hS0.2.2 q h
    · exact hfree _ h
end YX
section YN
variable {l : Launch} {D : va_G}
set_option maxHeartbeats 4000000 in
theorem yEN_hand : ∀ (b : Nat → Nat) (cw0 : va_W) (tg0 : List yC) (gs : List Int32) (av : List Value) (p : Program) (e : Env) (s : State) (m : MethodId) (below : List Frame) (meth : Method) (cd : Code) (Q : State → Prop), gs.length = ycEN.2.2.1.length → y_Fix ztb znw b zcls (ytbE ywEN) p (y_rm ycEN.1) s m av.toArray meth cd (va_A cw0 s.heap.size) ycEN.1 → ∀ κ ∈ [ykEN_120], ∀ (ms : List Nat) (H : Heap) (locs : List Loc) (cw : va_W) (tys : List (ClassId × FieldType)) (tg : List yC) (ls : Array Slot), y_At (ytbE ywEN) gs tg0 (y_mL ycEN.1) κ ms ls cw tg → y_HS zcls D yKT (ytbE ywEN) s cw0 H locs cw tys tg → (∀ κ' ∈ [ykEN_137], ∀ (ms : List Nat) (H : Heap) (locs : List Loc) (cw : va_W) (tys : List (ClassId × FieldType)) (tg : List yC) (ls : Array Slot), y_At (ytbE ywEN) gs tg0 (y_mL ycEN.1) κ' ms ls cw tg → y_HS zcls D yKT (ytbE ywEN) s cw0 H locs cw tys tg → W p l e (y_rm ycEN.1) s m av.toArray below meth cd H locs (y_rm ycEN.1).cells (y_rm ycEN.1).slots Q (F0 m κ'.1 ls [])) → W p l e (y_rm ycEN.1) s m av.toArray below meth cd H locs 0 0 Q (F0 m κ.1 ls []) := by
  intro b cw0 tg0 gs av p e s m below meth cd Q hgl hF κ hκ ms H locs cw tys tg ls hAt hS kk
  have hκ := List.mem_singleton.mp hκ
  subst hκ
  have hgs : gs = [] := List.length_eq_zero_iff.mp hgl
  subst hgs
  obtain ⟨hx, hb, hml, hown, hts, hR, hN, hA0, hok⟩ := id hF
  obtain ⟨htg, lv, hlv, ⟨hL1, hL2, hL3⟩, hRK⟩ := hAt
  obtain ⟨hK, hP, hD, hS0, hW, _, hsm⟩ := hS
  obtain ⟨dy, hdy, hdy2⟩ := hW.2.1
  have hdy : tg = ySh ++ dy := hdy
  have htgS : ∀ (k : Nat) (t : yC), ySh[k]? = some t → tg[k]? = some t := fun k t h => by rw [hdy, List.getElem?_append_left (List.getElem?_eq_some_iff.mp h).1]; exact h
  obtain ⟨v0, l0, k0, hk0, a0, ha0, rfl⟩ := hL1 (0, .inr (.inl [0])) (List.mem_of_getElem? (i := 0) rfl)
  have hk0 : k0 = 0 := List.mem_singleton.mp hk0
  subst hk0
  obtain ⟨v1, l1, x1, rfl, r1⟩ := hL1 _ (List.mem_of_getElem? (i := 1) (a := ((1, .inl [(2147483648, 2147483671)]) : Nat × yT)) rfl)
  obtain ⟨v2, l2, x2, rfl, r2⟩ := hL1 _ (List.mem_of_getElem? (i := 2) (a := ((2, .inl [(2147483649, 2147483678)]) : Nat × yT)) rfl)
  obtain ⟨v3, l3, x3, rfl, r3⟩ := hL1 _ (List.mem_of_getElem? (i := 3) (a := ((3, .inl [(2147483649, 2147483657)]) : Nat × yT)) rfl)
  obtain ⟨v4, l4, x4, rfl, r4⟩ := hL1 _ (List.mem_of_getElem? (i := 4) (a := ((4, .inl [(2147483649, 2147483653)]) : Nat × yT)) rfl)
  obtain ⟨v5, l5, x5, rfl, r5⟩ := hL1 _ (List.mem_of_getElem? (i := 5) (a := ((5, .inl [(2147483649, 2147493647)]) : Nat × yT)) rfl)
  obtain ⟨v6, l6, x6, rfl, r6⟩ := hL1 _ (List.mem_of_getElem? (i := 6) (a := ((6, .inl [(2147483648, 2147483718)]) : Nat × yT)) rfl)
  have hlv0 : lv_has ls (y_mL yrEN) [(0, .ref a0), (1, .int x1), (2, .int x2), (3, .int x3), (4, .int x4), (5, .int x5), (6, .int x6)] := lo_has hlv (y_forall l0 <| y_forall l1 <| y_forall l2 <| y_forall l3 <| y_forall l4 <| y_forall l5 <| y_forall l6 <| y_fornil)
  obtain ⟨vsH, cH, tH⟩ := y_cobj (ρ := ([], fun _ => none, cw.map Prod.fst, tg)) (ts := ySts 0) hW rfl ha0 (htgS 0 (.inl (11, ySts 0)) rfl)
  obtain ⟨w5, f5, kq, hkq, aY, haY, rfl⟩ := y_TL_get (k := 5) (t := .inr (.inl [72])) tH rfl
  have hkq : kq = 72 := List.mem_singleton.mp hkq
  subst hkq
  obtain ⟨y1, y2, _⟩ := zCF 11 ("RailwayHouse", zT11, 12) rfl
  refine lv_aload_n (k := 0) hx hb (y_dcd_ok (by decide +kernel)) rfl (lv_at hlv0 0 rfl) ?_
  refine va_get (D := D) (ci := 11) (C := "RailwayHouse") (T := zT11) (N := 12) hx hb hts y1 hown hK hP 0 cH rfl 5 (by decide) (index := 51) (hts _ (z_w_ok (n := 3137) (by decide +kernel))) (fun _ h9 => h9) f5 (y_dcd_ok (by decide +kernel)) ?_
  refine lv_iload (i := 6) hx hb (y_dcd_ok (by decide +kernel)) (lv_at hlv0 6 rfl) ?_
  refine lv_iload_n (k := 2) hx hb (y_dcd_ok (by decide +kernel)) rfl (lv_at hlv0 2 rfl) ?_
  refine lv_iload_n (k := 3) hx hb (y_dcd_ok (by decide +kernel)) rfl (lv_at hlv0 3 rfl) ?_
  refine lv_iload (i := 4) hx hb (y_dcd_ok (by decide +kernel)) (lv_at hlv0 4 rfl) ?_
  refine lv_iload (i := 5) hx hb (y_dcd_ok (by decide +kernel)) (lv_at hlv0 5 rfl) ?_
  have hann : y_Ann (ytbE ywBI).1.length (y_tv (ytbE ywBI) (cw.map Prod.fst) tg) [] (lv_args 0 [.ref aY, .int x6, .int x2, .int x3, .int x4, .int x5]) cw ycBI.2.1 := by
    refine ⟨?_, hL2, ?_⟩
    · exact y_forall ⟨.ref aY, rfl, 72, List.mem_singleton.mpr rfl, aY, haY, rfl⟩ <| y_forall ⟨.int x6, rfl, x6, rfl, r6⟩ <| y_forall ⟨.int x2, rfl, x2, rfl, r2⟩ <| y_forall ⟨.int x3, rfl, x3, rfl, r3⟩ <| y_forall ⟨.int x4, rfl, x4, rfl, r4⟩ <| y_forall ⟨.int x5, rfl, x5, rfl, r5⟩ <| y_fornil
    · exact y_AI_tr (bad := 1000) (a := 6) (b := 1) (cw := cw) (fun r x _ _ h => h) (fun x h => by rw [l6] at h; exact h) (by decide +kernel) hL3
  refine y_callX (cn := ycBI) (j := 251) (As := [.int x6, .int x2, .int x3, .int x4, .int x5]) (rest := []) (tg := tg) hF hK hP hD hS0 hW hlv0.1 yo_yrBI (z_w_ok (n := 6013) (by decide +kernel)) (by decide) (show _ = some 5 from by decide +kernel) (y_dcd_ok (by decide +kernel)) (o := 72) haY (ts := ySts 72) (htgS 72 _ rfl) ⟨by decide, by decide⟩ (Nat.le_of_ble_eq_true rfl) ⟨by decide, by decide⟩ (yBI b cw tys tg H.size [.ref aY, .int x6, .int x2, .int x3, .int x4, .int x5] [] (Nat.le_of_ble_eq_true rfl) hann trivial hW trivial) (fun H1 locs1 cw1 tys1 rv k1 k2 k3 k4 k5 => ?_)
  obtain ⟨tg1, o, o1, o2, o3, o4, o5, o6, o7, _⟩ := k5
  have o1 := List.mem_singleton.mp o1
  subst o1
  obtain ⟨xr, rfl, rr⟩ : ∃ x, rv = some (.int x) ∧ y_in [(2147483648, 2147483847)] (z_b x) := by
    cases rv with
    | none => exact o2.elim
    | some v =>
      obtain ⟨x, h1, h2⟩ := o2
      exact ⟨x, by rw [h1], h2⟩
  refine lv_istore (nL := y_mL yrEN) hx hb (i := 7) (y_dcd_ok (by decide +kernel)) hlv0 (by decide) rfl (fun ls1 hl1 => ?_)
  have hle : z_le (cw.map Prod.fst) (cw1.map Prod.fst) := o6.1
  refine kk ykEN_137 (List.mem_singleton.mpr rfl) [y_m 0 (nI 49863)] H1 locs1 cw1 tys1 tg1 ls1 ⟨fun p t h => o5 p t (htg p t h), _, hl1, ⟨?_, ?_, trivial⟩, ⟨_, ⟨_, rfl, rfl⟩, rfl⟩, trivial⟩ ⟨k1, k2, k3, k4, o7, trivial, y_same_trans hsm (y_same_le (wr := ywEN) (wr' := ywBI) (fun q hq => ?_) (fun q hq => ?_) (fun _ => rfl) o6)⟩
  · exact y_forall ⟨.ref a0, rfl, 0, List.mem_singleton.mpr rfl, a0, hle 0 a0 ha0, rfl⟩ <| y_forall ⟨.int x1, rfl, x1, rfl, r1⟩ <| y_forall ⟨.int x2, rfl, x2, rfl, r2⟩ <| y_forall ⟨.int x3, rfl, x3, rfl, r3⟩ <| y_forall ⟨.int x4, rfl, x4, rfl, r4⟩ <| y_forall ⟨.int x5, rfl, x5, rfl, r5⟩ <| y_forall ⟨.int x6, rfl, x6, rfl, r6⟩ <| y_forall ⟨.int xr, rfl, xr, rfl, rr⟩ <| y_fornil
  · have f0 : y_facts ySh.length cw1 [(11, 0, [(2147483649, 2147483672)])] := fun q hq => by
      have hq := List.mem_singleton.mp hq
      subst hq
      obtain ⟨h1, a, ci, vs, x, h2, h3, h4⟩ := hL2 (11, 0, [(2147483649, 2147483672)]) (List.mem_of_getElem? (i := 0) rfl)
      obtain ⟨vs', h5, h6⟩ := o6.2.1 11 a ci vs h2
      exact ⟨h1, a, ci, vs', x, h5, by rw [h6 0 (fun _ => by decide) (fun z => absurd z (by decide +kernel))]; exact h3, h4⟩
    intro q hq
    rcases List.mem_cons.mp hq with hq | hq
    · exact f0 q (by rw [hq]; exact List.mem_singleton.mpr rfl)
    · exact o3 q hq
  · rcases List.mem_cons.mp hq with rfl | hq
    · exact List.mem_of_getElem? (i := 1) rfl
    · rw [List.mem_singleton.mp hq]
      exact List.mem_of_getElem? (i := 2) rfl
  · rw [List.mem_singleton.mp hq]
    exact List.mem_of_getElem? (i := 0) rfl
theorem yEN : y_ConH ztb znw zcls l D yKT (ytbE ywEN) ycEN :=
  y_ctrH (F := 0) (K := yKT) (hn := y_hnL yhE) (yAllE ywEN) ySh_ok (fun _ _ _ _ => trivial) (fun _ cn h hf hw => y_Con_K (yKm_iff (w := ywEN) (y_wle_ok hw).2.1 (yM0 (by decide +kernel))) (y_Con_tb rfl rfl rfl (yCon' (List.mem_of_getElem? h)))) (fun _ => y_hnL_ok yhE_ok) yo_yrEN (List.all_eq_true.mp yq_yrEN) rfl [ykEN_137] [ykEN_120] 1 (y_forall rfl y_fornil) (y_forall (y_ufl_ok (mr := yrEN) (pc := 137)) y_fornil) 100000 yeEN (y_forall yxEN_137 y_fornil) yEN_hand
end YN
