-- Yard.bringIn
section YB
variable {l : Launch} {D : va_G}
def ySts (k : Nat) : List yT := match ySh[k]? with
  | some (Sum.inl q) => q.2
  | _ => []
theorem lo_has {ls : Array Slot} {nL : Nat} {lv lv' : List (Nat × Value)} (h : lv_has ls nL lv) (hs : ∀ q ∈ lv', lv.lookup q.1 = some q.2) : lv_has ls nL lv' := ⟨h.1, h.2.1, fun q hq => h.2.2 q (y_lookup_mem (hs q hq))⟩
theorem yM0 {w : yWr} (h : yMB w 0 = true) : ∀ q ∈ w.2.1, 900 ≤ q → q ≤ 999 → yKK q = yKT := yMB_ok (m := 0) h (Or.inr h)
set_option maxHeartbeats 4000000 in
theorem yBI_hand : ∀ (b : Nat → Nat) (cw0 : va_W) (tg0 : List yC) (gs : List Int32) (av : List Value) (p : Program) (e : Env) (s : State) (m : MethodId) (below : List Frame) (meth : Method) (cd : Code) (Q : State → Prop), gs.length = ycBI.2.2.1.length → y_Fix ztb znw b zcls (ytbE ywBI) p (y_rm ycBI.1) s m av.toArray meth cd (va_A cw0 s.heap.size) ycBI.1 → ∀ κ ∈ [ykBI_16], ∀ (ms : List Nat) (H : Heap) (locs : List Loc) (cw : va_W) (tys : List (ClassId × FieldType)) (tg : List yC) (ls : Array Slot), y_At (ytbE ywBI) gs tg0 (y_mL ycBI.1) κ ms ls cw tg → y_HS zcls D yKT (ytbE ywBI) s cw0 H locs cw tys tg → (∀ κ' ∈ [ykBI_36], ∀ (ms : List Nat) (H : Heap) (locs : List Loc) (cw : va_W) (tys : List (ClassId × FieldType)) (tg : List yC) (ls : Array Slot), y_At (ytbE ywBI) gs tg0 (y_mL ycBI.1) κ' ms ls cw tg → y_HS zcls D yKT (ytbE ywBI) s cw0 H locs cw tys tg → W p l e (y_rm ycBI.1) s m av.toArray below meth cd H locs (y_rm ycBI.1).cells (y_rm ycBI.1).slots Q (F0 m κ'.1 ls [])) → W p l e (y_rm ycBI.1) s m av.toArray below meth cd H locs 0 0 Q (F0 m κ.1 ls []) := by
  intro b cw0 tg0 gs av p e s m below meth cd Q _ hF κ hκ ms H locs cw tys tg ls hAt hS kk
  have hκ := List.mem_singleton.mp hκ
  subst hκ
  obtain ⟨hx, hb, hml, hown, hts, hR, hN, hA0, hok⟩ := id hF
  obtain ⟨htg, lv, hlv, ⟨hL1, hL2, hL3⟩, hRK⟩ := hAt
  obtain ⟨hK, hP, hD, hS0, hW, _, hsm⟩ := hS
  obtain ⟨dy, hdy, hdy2⟩ := hW.2.1
  have hdy : tg = ySh ++ dy := hdy
  have hn0 : ySh.length = 224 := by decide +kernel
  have hsz : 224 ≤ cw.length := by rw [hW.1, hdy, List.length_append]; show 224 ≤ ySh.length + _; omega
  have htgS : ∀ (k : Nat) (t : yC), ySh[k]? = some t → tg[k]? = some t := fun k t h => by rw [hdy, List.getElem?_append_left (List.getElem?_eq_some_iff.mp h).1]; exact h
  -- locals
  obtain ⟨v0, l0, k0, hk0, a0, ha0, rfl⟩ := hL1 (0, .inr (.inl [72])) (List.mem_of_getElem? (i := 0) rfl)
  have hk0 : k0 = 72 := List.mem_singleton.mp hk0
  subst hk0
  obtain ⟨v1, l1, x1, rfl, r1⟩ := hL1 _ (List.mem_of_getElem? (i := 1) (a := ((1, .inl [(2147483648, 2147483718)]) : Nat × yT)) rfl)
  obtain ⟨v2, l2, x2, rfl, r2⟩ := hL1 _ (List.mem_of_getElem? (i := 2) (a := ((2, .inl [(2147483649, 2147483678)]) : Nat × yT)) rfl)
  obtain ⟨v3, l3, x3, rfl, r3⟩ := hL1 _ (List.mem_of_getElem? (i := 3) (a := ((3, .inl [(2147483649, 2147483657)]) : Nat × yT)) rfl)
  obtain ⟨v4, l4, x4, rfl, r4⟩ := hL1 _ (List.mem_of_getElem? (i := 4) (a := ((4, .inl [(2147483649, 2147483653)]) : Nat × yT)) rfl)
  obtain ⟨v5, l5, x5, rfl, r5⟩ := hL1 _ (List.mem_of_getElem? (i := 5) (a := ((5, .inl [(2147483649, 2147493647)]) : Nat × yT)) rfl)
  have hlv0 : lv_has ls (y_mL yrBI) [(0, .ref a0), (1, .int x1), (2, .int x2), (3, .int x3), (4, .int x4), (5, .int x5)] := lo_has hlv (y_forall l0 <| y_forall l1 <| y_forall l2 <| y_forall l3 <| y_forall l4 <| y_forall l5 <| y_fornil)
  -- the yard, its trains
  have had : y_ad ([], fun _ => none, cw.map Prod.fst, tg) = cw.map Prod.fst := rfl
  obtain ⟨vsY, cY, tY⟩ := y_cobj (ρ := ([], fun _ => none, cw.map Prod.fst, tg)) (ts := ySts 72) hW had ha0 (htgS 72 (.inl (10, ySts 72)) rfl)
  obtain ⟨w5, f5, kq, hkq, aT, haT, rfl⟩ := y_TL_get (k := 5) (t := .inr (.inl [76])) tY rfl
  have hkq : kq = 76 := List.mem_singleton.mp hkq
  subst hkq
  obtain ⟨_, a0', ci', vs', xc, g1, g2, g3⟩ := hL2 (72, 6, [(2147483648, 2147483847)]) (List.mem_of_getElem? (i := 1) rfl)
  have g1 : cw[72]? = some (a0', .inr (ci', vs')) := g1
  rw [cY] at g1
  cases g1
  obtain ⟨cA, d, t0, cT, tT, dT⟩ := y_crow (ρ := ([], fun _ => none, cw.map Prod.fst, tg)) hW had haT (htgS 76 (.inr (11, 200, .inr (.inr 1))) rfl)
  obtain ⟨g, rfl, hg⟩ : ∃ g, d = .inr (.inr (.inr (.inr g))) ∧ ∀ j, j < 200 → y_tv (ytbE ywBI) (cw.map Prod.fst) tg (.inr (.inr 1)) (va_rf (g j)) := dT
  have hin : vp_in xc 200 := by
    have := i_1 g3
    have e0 : (0 : Int32).toInt = 0 := by decide
    intro z
    rcases z with z | z
    · have := Int32.lt_iff_toInt_lt.mp z
      omega
    · have : (200 : Int) ≤ xc.toInt := by
        have : 200 ≤ xc.toInt.toNat := z
        omega
      omega
  have hxc : xc.toNatClampNeg < 200 := Nat.not_le.mp fun z => hin (Or.inr z)
  -- new
  obtain ⟨f1, f2, f3, f4, ty, dv, f5', f6, f7, f8, f9⟩ := zCF 7 ("RailwayHouse$Train", zT7, 13) rfl
  have hdv : dv = zv7 := (Option.some.inj (f6.symm.trans (rfl : zzdv[7]? = some zv7)))
  subst hdv
  refine va_new (index := 1) (ci := 7) (fs := zv7.map z_cv) (C := "RailwayHouse$Train") (T := zT7) (N := 13) hx hb hts f1 ty f7 hown (hts _ (z_w_ok (n := 2117) (by decide +kernel))) (hts _ f3) (hts _ f4) hK hP hD hS0 hA0 rfl f9 (by decide) (by decide) (y_dcd_ok (by decide +kernel)) (fun q1 H1 hP1 hD1 hS1 => ?_)
  refine lv_dup hx hb (y_dcd_ok (by decide +kernel)) rfl ?_
  -- its constructor
  obtain ⟨⟨⟨p1, p2, p3, p4, hM1⟩, hMc⟩, hM2⟩ := zAll.2.2.2 ziT zmT rfl
  obtain ⟨m1, m2, m3, m4, m7⟩ := z_okM_ok hMc hM1
  obtain ⟨⟨m8, m9⟩, cq, m5, m6⟩ := m4 (by decide)
  obtain ⟨X, hX⟩ : ∃ X : Nat × va_E, X = (q1, .inr (7, zv7.map z_cv)) := ⟨_, rfl⟩
  rw [← hX] at hP1 hD1
  have hXi : (cw ++ [X])[cw.length]? = some X := by simp
  have hPX : va_P D zcls [X] H1 := fun k q h => by
    cases k with
    | zero => cases h; exact hP1 _ _ hXi
    | succ k => simp at h
  have hDX : va_D (fun _ => True) [X] := ⟨fun i j p q h1 h2 _ => by
      have a1 := (List.getElem?_eq_some_iff.mp h1).1
      have a2 := (List.getElem?_eq_some_iff.mp h2).1
      simp at a1 a2
      omega, fun _ _ _ => trivial⟩
  have hMz : Met l (z_y zmT) (z_ws ztb zmT) (z_rm zmT) (z_Pc znw zcls D [X] tys H1.size [.ref q1]) (z_Q zcls D (fun _ => 0) 0 [X] H1.size zTrK) (z_rm zmT).cells (z_rm zmT).slots (va_A [X] H1.size) := z_met (n := 1000) zAll (z_snd zAll 1000) (x1 := ziT) (cm := zmT) rfl (as := [z_rf 0]) rfl ⟨⟨q1, by rw [hX]; rfl, rfl⟩, trivial⟩ (by decide) (fun i q h => by simp at h) (w := [zTr0]) ⟨by rw [hX]; exact ⟨rfl, z_cv_all f8⟩, trivial⟩ zTr
  have hpre : PreS s H1 (z_Pc znw zcls D [X] tys H1.size [.ref q1]) [.ref q1] := ⟨fun a U g mk q => by
      obtain ⟨q0, q1, qP, qK, qD, qN⟩ := q
      exact ⟨q0, q1, qP, va_K.moved (u := U) (U := U.calling g mk a) (Vm.Alike.refl U.vm) qK, qD, z_NW_same rfl qN⟩,
    fun U hU hW => ⟨rfl, by rw [hU], by rw [hU]; exact hPX, va_K.moved hW.alike hK, hDX, z_NW_warm hW hN.1⟩⟩
  refine z_goon (va_runIN (As := []) (rest := [.ref q1]) ⟨hx, hb, hml, hown, hts⟩ hMz ⟨va_cnB 0 hts (z_goodIn m1) rfl rfl rfl (hN.1.1 "RailwayHouse$Yard" 90 ⟨"RailwayHouse$Train", "<init>", "()V"⟩ "RailwayHouse" (List.mem_of_getElem? (i := 21) rfl)) (hts _ m2) ⟨m3.1, m3.2, by decide +kernel⟩ ⟨by decide, by decide⟩, rfl, hts _ m8⟩ hpre rfl rfl hlv0.1 rfl (lv_room (Nat.le_of_ble_eq_true rfl)) (show decode (y_cc yrBI) 20 = _ from y_dcd_ok (by decide +kernel)) ⟨by decide, by decide⟩) ?_
  intro v st₀ t1 H2 locs2 e0 e1 hvm hq hloc
  obtain ⟨⟨env', r, w', cwz, tys', rv, z1, z2, z3, z4, z5, z6, z7, z8, z9⟩, hz, hk⟩ := hq
  have z1 : v = rv := by cases z1; rfl
  subst z1
  rw [e0] at hz hk
  rw [e1] at hz hk z6
  have hr : r = none ∧ w' = zTr1 := by
    cases r with
    | none => exact ⟨rfl, z_eqW_ok z2⟩
    | some _ => cases z2
  obtain ⟨rfl, rfl⟩ := hr
  have hv : v = none := by
    cases v with
    | none => rfl
    | some _ => exact z3.elim
  subst hv
  obtain ⟨hP2, hD2, hS2⟩ := y_joinW hP1 hD1 hS1 hA0 hz hk z6 z8 hloc
  have hK2 : va_K D zcls (tys' ++ tys) s := va_K_app (va_K.moved hvm.symm z7) hK
  -- the two cells
  obtain ⟨X1, X2, hcz⟩ : ∃ X1 X2, cwz = [X1, X2] := by
    match cwz, z9 with
    | [X1, X2], _ => exact ⟨X1, X2, rfl⟩
    | [], z => exact z.elim
    | [_], z => exact z.2.elim
    | _ :: _ :: _ :: _, z => exact z.2.2.elim
  subst hcz
  have hX1 : X1.1 = q1 := by
    have := z5 0 q1 (by rw [hX]; rfl)
    exact Option.some.inj this
  obtain ⟨vsT, hX1e⟩ : ∃ vs, X1.2 = .inr (7, vs) := by
    have := z9.1
    match hh : X1.2, this with
    | .inr (k, o), z =>
      have : 7 = k := z.1
      subst this
      exact ⟨o, rfl⟩
    | .inl _, z => exact z.elim
  have hX1' : X1 = (q1, .inr (7, vsT)) := by
    rw [← hX1, ← hX1e]
  -- all shapes
  have hle : z_le (cw.map Prod.fst) ((cw ++ [X1, X2]).map Prod.fst) := fun k a h => by
    rw [List.map_append, List.getElem?_append_left (List.getElem?_eq_some_iff.mp h).1]
    exact h
  have htgl : tg.length = cw.length := hW.1.symm
  have htle : ∀ (p : Nat) (t : yC), tg[p]? = some t → (tg ++ [yTrn, yTrw])[p]? = some t := fun p t h => by
    rw [List.getElem?_append_left (List.getElem?_eq_some_iff.mp h).1]
    exact h
  have htyl : ∀ (k : Nat) (q : ClassId × FieldType), tys[k]? = some q → ∃ k' : Nat, (tys' ++ tys)[k']? = some q := fun k q h => ⟨tys'.length + k, by
    rw [List.getElem?_append_right (by omega), Nat.add_sub_cancel_left]
    exact h⟩
  have hW2 : y_WT (ytbE ywBI) zcls (tys' ++ tys) (tg ++ [yTrn, yTrw]) (cw ++ [X1, X2]) := by
    refine ⟨by rw [List.length_append, List.length_append, htgl]; rfl, ⟨dy ++ [yTrn, yTrw], by rw [hdy, List.append_assoc]; rfl, fun c hc => ?_⟩, fun p e t h1 h2 => ?_⟩
    · rcases List.mem_append.mp hc with hc | hc
      · exact hdy2 c hc
      · rcases List.mem_cons.mp hc with hc | hc
        · exact Or.inl hc
        · exact Or.inr (List.mem_singleton.mp hc)
    · by_cases hp : p < cw.length
      · rw [List.getElem?_append_left hp] at h1
        rw [List.getElem?_append_left (by omega)] at h2
        exact y_ET_up hle htle htyl (hW.2.2 p e t h1 h2)
      · rw [List.getElem?_append_right (by omega)] at h1
        rw [List.getElem?_append_right (by omega), htgl] at h2
        have z9' : z_WR zcls (z_g (fun _ => 0) ([X1, X2].map Prod.fst) 0) (tys' ++ tys) zTr1 [X1, X2] := z_WR_mono (fun _ _ h => h) (fun t0 q h => by rw [List.getElem?_append_left (List.getElem?_eq_some_iff.mp h).1]; exact h) z9
        refine (zy_W_ok (cls := zcls) (tb := ytbE ywBI) (ad := (cw ++ [X1, X2]).map Prod.fst) (tg := tg ++ [yTrn, yTrw]) (rf := zTrF) (fun k t a h1 h2 => ?_) zTrW z9').2 _ e t h1 h2
        unfold zTrF at h1
        split at h1
        · have h1 := Nat.eq_of_beq_eq_true h1
          subst h1
          refine ⟨cw.length + 1, a, ?_, ?_, ?_, rfl⟩
          · show ySh.length ≤ _
            omega
          · rw [List.map_append, List.getElem?_append_right (by simp)]
            simp at h2 ⊢
            exact h2
          · rw [List.getElem?_append_right (by omega), htgl]
            simp
            rfl
        · cases h1
  -- 23 .. 35
  refine lv_astore (nL := y_mL yrBI) hx hb (i := 6) (y_dcd_ok (by decide +kernel)) hlv0 (by decide) rfl (fun ls1 hl1 => ?_)
  have cY2 : (cw ++ [X1, X2])[72]? = some (a0, .inr (10, vsY)) := by rw [List.getElem?_append_left (by omega)]; exact cY
  have cT2 : (cw ++ [X1, X2])[76]? = some (aT, .inl (cA, 200, .inr (.inr (.inr (.inr g))))) := by rw [List.getElem?_append_left (by omega)]; exact cT
  have cN2 : (cw ++ [X1, X2])[cw.length]? = some (q1, .inr (7, vsT)) := by rw [List.getElem?_append_right (by omega), Nat.sub_self, hX1']; rfl
  obtain ⟨y1, y2, _⟩ := zCF 10 ("RailwayHouse$Yard", zT10, 13) rfl
  refine lv_aload_n (k := 0) hx hb (y_dcd_ok (by decide +kernel)) rfl (lv_at hl1 1 rfl) ?_
  refine va_get (D := D) (ci := 10) (C := "RailwayHouse$Yard") (T := zT10) (N := 13) hx hb hts y1 hown hK2 hP2 72 cY2 rfl 5 (by decide) (index := 27) (hts _ (z_w_ok (n := 2126) (by decide +kernel))) (fun _ h9 => h9) f5 (y_dcd_ok (by decide +kernel)) ?_
  refine lv_aload_n (k := 0) hx hb (y_dcd_ok (by decide +kernel)) rfl (lv_at hl1 1 rfl) ?_
  refine va_get (D := D) (ci := 10) (C := "RailwayHouse$Yard") (T := zT10) (N := 13) hx hb hts y1 hown hK2 hP2 72 cY2 rfl 6 (by decide) (index := 31) (hts _ (z_w_ok (n := 2127) (by decide +kernel))) (fun _ h9 => h9) g2 (y_dcd_ok (by decide +kernel)) ?_
  refine lv_aload (i := 6) hx hb (y_dcd_ok (by decide +kernel)) (lv_at hl1 0 rfl) ?_
  obtain ⟨t1', tT2⟩ : ∃ t1 : Nat, (tys' ++ tys)[t1]? = some (cA, FieldType.object "RailwayHouse$Train") := htyl t0 _ tT
  refine va_astq hx hb hK2 hP2 hD2 hS2 76 t1' cw.length 7 (r := ("RailwayHouse$Train", zT7, 13)) cT2 tT2 cN2 rfl hin (y_dcd_ok (by decide +kernel)) (fun H3 locs3 hP3 hD3 hS3 => ?_)
  -- at 36
  obtain ⟨cw3, hcw3⟩ : ∃ cw3, cw3 = (cw ++ [X1, X2]).set 76 (aT, .inl (cA, 200, .inr (.inr (.inr (.inr (va_up g xc.toNatClampNeg (some q1))))))) := ⟨_, rfl⟩
  rw [← hcw3] at hP3 hD3
  have hfst : cw3.map Prod.fst = (cw ++ [X1, X2]).map Prod.fst := by rw [hcw3]; exact z_fst_set cT2
  have hc3 : ∀ (r : Nat) (x : Nat × va_E), r < ySh.length → r ≠ 76 → cw[r]? = some x → cw3[r]? = some x := fun r x _ h2 h3 => by
    rw [hcw3, List.getElem?_set_ne (fun z => h2 z.symm), List.getElem?_append_left (List.getElem?_eq_some_iff.mp h3).1]
    exact h3
  have hW3 : y_WT (ytbE ywBI) zcls (tys' ++ tys) (tg ++ [yTrn, yTrw]) cw3 := by
    rw [hcw3]
    refine y_WT_set hW2 cT2 (t := .inr (11, 200, .inr (.inr 1))) (htle _ _ (htgS 76 _ rfl)) ⟨rfl, ⟨t1', tT2⟩, ⟨_, rfl, fun j hj => ?_⟩⟩
    show y_tv (ytbE ywBI) _ _ (.inr (.inr 1)) (va_rf (va_up g xc.toNatClampNeg (some q1) j))
    by_cases hjx : j = xc.toNatClampNeg
    · rw [show va_up g xc.toNatClampNeg (some q1) j = some q1 from by unfold va_up; rw [if_pos hjx]]
      refine Or.inr ⟨cw.length, q1, ?_, ?_, ?_, rfl⟩
      · show ySh.length ≤ _
        omega
      · rw [List.getElem?_map, cN2]; rfl
      · rw [List.getElem?_append_right (by omega), htgl, Nat.sub_self]; rfl
    · rw [show va_up g xc.toNatClampNeg (some q1) j = g j from by unfold va_up; rw [if_neg hjx]]
      exact y_tv_mono hle htle (hg j hj)
  have hsm3 : y_same ySh.length ywBI cw cw3 := by
    refine ⟨fun k a h => by rw [hfst]; exact hle k a h, fun p a ci vs h => ⟨vs, ?_, fun _ _ _ => rfl⟩, fun p e h hx' h1 h2 => ?_⟩
    · rw [hcw3, List.getElem?_set_ne (fun z => by subst z; rw [cT] at h; cases h), List.getElem?_append_left (List.getElem?_eq_some_iff.mp h).1]
      exact h
    · have hp : p ≠ 76 := fun z => by
        subst z
        exact h1 (by omega) (List.mem_singleton.mpr rfl)
      rw [hcw3, List.getElem?_set_ne (fun z => hp z.symm), List.getElem?_append_left (List.getElem?_eq_some_iff.mp h).1]
      exact h
  have hsm4 : ∀ (q : Nat × yT), q ∈ ykBI_36.2.1.1 → ∃ v, List.lookup q.1 [(6, Value.ref q1), (0, .ref a0), (1, .int x1), (2, .int x2), (3, .int x3), (4, .int x4), (5, .int x5)] = some v ∧ y_tv (ytbE ywBI) (cw3.map Prod.fst) (tg ++ [yTrn, yTrw]) q.2 v := by
    refine y_forall ⟨.ref a0, rfl, 72, List.mem_singleton.mpr rfl, a0, by rw [hfst]; exact hle 72 a0 ha0, rfl⟩ <| y_forall ⟨.int x1, rfl, x1, rfl, r1⟩ <| y_forall ⟨.int x2, rfl, x2, rfl, r2⟩ <| y_forall ⟨.int x3, rfl, x3, rfl, r3⟩ <| y_forall ⟨.int x4, rfl, x4, rfl, r4⟩ <| y_forall ⟨.int x5, rfl, x5, rfl, r5⟩ <| y_forall ⟨.ref q1, rfl, cw.length, q1, ?_, ?_, ?_, rfl⟩ <| y_fornil
    · show ySh.length ≤ _
      omega
    · rw [hfst, List.getElem?_map, cN2]; rfl
    · rw [List.getElem?_append_right (by omega), htgl, Nat.sub_self]; rfl
  have hai : y_AI ySh.length [(6, Value.ref q1), (0, .ref a0), (1, .int x1), (2, .int x2), (3, .int x3), (4, .int x4), (5, .int x5)] cw3 gs (ykBI_16.2.1.2.2.map (y_rni 1 1)) := by
    exact y_AI_tr (bad := 76) (a := 1) (b := 1) hc3 (fun x h => by rw [l1] at h; exact h) (by decide +kernel) hL3
  exact kk ykBI_36 (List.mem_singleton.mpr rfl) [y_m 0 (nI 49964)] H3 locs3 cw3 (tys' ++ tys) (tg ++ [yTrn, yTrw]) ls1 ⟨fun p t h => htle p t (htg p t h), _, hl1, ⟨hsm4, y_facts_tr (bad := 76) hc3 (by decide +kernel) hL2, hai⟩, ⟨_, ⟨_, rfl, rfl⟩, rfl⟩, trivial⟩ ⟨hK2, hP3, hD3, hS3, hW3, trivial, y_same_trans hsm hsm3⟩
theorem yBI : y_ConH ztb znw zcls l D yKT (ytbE ywBI) ycBI :=
  y_ctrH (F := 0) (K := yKT) (hn := y_hn0) (yAllE ywBI) ySh_ok (fun _ _ _ _ => trivial) (fun _ cn h hf hw => y_Con_K (yKm_iff (w := ywBI) (y_wle_ok hw).2.1 (yM0 (by decide +kernel))) (y_Con_tb rfl rfl rfl (yCon' (List.mem_of_getElem? h)))) (fun _ => y_hn0_ok) yo_yrBI (List.all_eq_true.mp yq_yrBI) rfl [ykBI_36] [ykBI_16] 1 (y_forall rfl y_fornil) (y_forall (y_ufl_ok (mr := yrBI) (pc := 36)) y_fornil) 100000 yeBI (y_forall yxBI_36 y_fornil) yBI_hand
end YB
