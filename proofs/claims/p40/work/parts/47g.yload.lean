-- the launch, the classes
variable {l : Launch} {D : va_G}
theorem ldCall {b : Nat → Nat} {p : Program} {e : Env} {s : State} {m : MethodId} {args : Array Value} {below : List Frame} {meth : Method} {c : Code} {A : Nat → Prop} {Q : State → Prop} {K : va_W → Prop} (hF : y_Fix ztb znw b zcls (ytb ywS1) p (y_rm yrLd) s m args meth c A yrLd) {w : yWr} {cw0 cw : va_W} {tg0 tg : List yC} {a : Nat} {H : Heap} {locs : List Loc} {tys : List (ClassId × FieldType)} {ls : Array Slot} (hS : ldS D s A K w cw0 tg0 a H locs cw tys tg) (hls : lv_has ls (y_mL yrLd) [(0, .ref a)]) {q j x1 x3 fl : Nat} (hent : (q, Jvm.ClassFile.Instr.invokevirtual j, x1, 1000, x3, fl) ∈ y_cd yrLd) {cn : yCN} (hcn : ycs[x1]? = some cn) (hcl : y_cls (ytb ywS1) 0 114 (y_ci cn.1) = true) (hRm : y_Rm (y_rm yrLd) [] cn.1) (hw : y_wle (ytb w) cn.2.2.2.2 = true) {X : va_W → List (ClassId × FieldType) → Option Value → Prop} {K' : va_W → Prop}
    (hMet : Met l (y_y cn.1) (y_ws ztb cn.1) (y_rm cn.1) (y_Pc znw b zcls D cw tys H.size [.ref a]) (y_Q zcls D X cw H.size) 0 0 (va_A cw H.size))
    (hX : ∀ (cw' : va_W) (tys' : List (ClassId × FieldType)) (rv : Option Value), X cw' tys' rv → y_same (ytb yw00).1.length cn.2.2.2.2 cw cw' ∧ ∃ tg' : List yC, (∀ (p : Nat) (t : yC), tg[p]? = some t → tg'[p]? = some t) ∧ y_WT (ytb yw00) zcls tys' tg' cw' ∧ K' cw')
    (kk : ∀ (H1 : Heap) (locs1 : List Loc) (cw' : va_W) (tys' : List (ClassId × FieldType)) (tg' : List yC) (rv : Option Value), ldS D s A K' w cw0 tg0 a H1 locs1 cw' tys' tg' → X cw' tys' rv → W p l e (y_rm yrLd) s m args below meth c H1 locs1 0 0 Q (F0 m (q + 3) ls (rv.toList ++ []))) : W p l e (y_rm yrLd) s m args below meth c H locs 0 0 Q (F0 m q ls [.ref a]) := by
  obtain ⟨s1, s2, s3, s4, s5, s6, s7, s8, s9⟩ := hS
  obtain ⟨w1, w2, w3⟩ := y_wle_ok hw
  refine y_callC (tb := ytb ywS1) (K := fun _ => True) (b := b) (cw0 := cw) (n := 0) (env := []) (h := ([], [], [], [])) (ρ := ([], fun _ => none, cw.map Prod.fst, tg)) (yAll ywS1) hF (Nat.zero_le _) (Nat.zero_le _) (y_St0 s1 s2 s3 s4 (y_WT_tb s5) trivial (y_same_refl _ _ _)) hls hent hcn (o := 114) s9 (by decide +kernel) hcl hRm hMet ?_
  intro H1 locs1 cw' tys' rv k1 k2 k3 k4 k5
  obtain ⟨x1, tg', x2, x3, x4⟩ := hX cw' tys' rv k5
  exact kk H1 locs1 cw' tys' tg' rv ⟨k1, k2, k3, k4, x3, x4, y_same_trans s7 (y_same_le w1 w2 w3 x1), fun p t z => x2 p t (s8 p t z), x1.1 114 a s9⟩ k5
theorem ann114 {tg : List yC} {a : Nat} {cw : va_W} (h : (cw.map Prod.fst)[114]? = some a) : y_Ann (ytb yw00).1.length (y_tv (ytb yw00) (cw.map Prod.fst) tg) [] (lv_args 0 [.ref a]) cw ([(0, .inr (.inl [114]))], [], []) := ⟨y_forall ⟨.ref a, rfl, 114, List.mem_cons_self, a, h, rfl⟩ y_fornil, fun q hq => (by cases hq), trivial⟩
theorem Km_0 {w : yWr} (h : yMB w 0 = true) (cw : va_W) : yKm w cw := fun q h1 h2 h3 => by
  have := List.all_eq_true.mp h q h1
  simp only [Bool.or_eq_true, decide_eq_true_eq, beq_iff_eq] at this
  omega
set_option maxHeartbeats 1000000 in
theorem yLoad : y_Con ztb znw zcls l D K3 (ytb yw00) ycLd := by
  intro b cw0 tys0 tg0 sz av gs hlen hann hGS hW0 hK0
  have hgs : gs = [] := by
    cases gs with
    | nil => rfl
    | cons _ _ => exact hGS.elim
  subst hgs
  obtain ⟨v, hv1, k, hk, a, ha, rfl⟩ := hann.1 (0, .inr (.inl [114])) List.mem_cons_self
  have hk : k = 114 := List.mem_singleton.mp hk
  subst hk
  refine Met.ofW (cc := y_cc yrLd) (maxL := y_mL yrLd) (ret := y_rt yrLd) yo_yrLd.2.2.1 rfl ?_
  intro p e s m args below meth cd s₁ B hml hv
  obtain ⟨rfl, hsz, hP0, hKK0, hD0, hN⟩ := hv
  subst hsz
  have hD := hD0.self (sz := s.heap.size)
  have hts := atoms_spec (ws := y_ws ztb yrLd) B.pre
  have hl := lv_entry av (n := y_mL yrLd) hlen
  rw [lg_entry_eq]
  have hFix : y_Fix ztb znw b zcls (ytb ywS1) p (y_rm yrLd) s m av.toArray meth cd (va_A cw0 s.heap.size) yrLd := ⟨B.exec, B.bytes, hml, findClass_of_methodNamed B.named, fun x hx => hts x (List.mem_cons_of_mem _ hx), rfl, hN, fun q h => Or.inr h, List.all_eq_true.mp yq_yrLd⟩
  obtain ⟨Q, hQ⟩ : ∃ Q, Q = MQ below (y_Q zcls D (y_XC zcls K3 (ytb yw00) ycLd [] cw0 tg0) cw0 s.heap.size) av.toArray s 0 0 (va_A cw0 s.heap.size) := ⟨_, rfl⟩
  have fin : ∀ (H : Heap) (locs : List Loc) (cw : va_W) (tys : List (ClassId × FieldType)) (tg : List yC) (ls : Array Slot) (pc : Nat) (x : Int32), ldS D s (va_A cw0 s.heap.size) K3 ywL2 cw0 tg0 a H locs cw tys tg → decode (y_cc yrLd) pc = .ok (.ireturn, 1) → W p l e (y_rm yrLd) s m av.toArray below meth cd H locs 0 0 Q (F0 m pc ls [.int x]) := by
    intro H locs cw tys tg ls pc x hS hdec
    obtain ⟨s1, s2, s3, s4, s5, s6, s7, s8, s9⟩ := hS
    rw [hQ]
    exact W.zret B.exec B.bytes (by rw [B.returns]; rfl) rfl (fun t ht hW => ⟨⟨cw, tys, some (.int x), rfl, by rw [ht]; exact s2, va_K.moved hW.alike s1, s3, tg, _, List.mem_cons_self, ⟨x, rfl, y_in_top x⟩, fun q hq => (by cases hq), trivial, s8, s7, s5, s6⟩, s4.F ht⟩) s4.2.2 hdec
  have nofin : ∀ {K : va_W → Prop}, (∃ (n : Nat) (env : yEnv) (h : yHp) (r : Option yV), (fun (_ : Nat) (_ : yEnv) (_ : yHp) (_ : Option yV) => false) n env h r = true) → ∀ (H : Heap) (locs : List Loc) (cw : va_W) (tys : List (ClassId × FieldType)) (tg : List yC) (ls : Array Slot) (pc : Nat) (x : Int32), ldS D s (va_A cw0 s.heap.size) K ywL2 cw0 tg0 a H locs cw tys tg → decode (y_cc yrLd) pc = .ok (.ireturn, 1) → W p l e (y_rm yrLd) s m av.toArray below meth cd H locs 0 0 Q (F0 m pc ls [.int x]) := fun ⟨_, _, _, _, z⟩ => by cases z
  -- 51: the end
  have h5 : ∀ (H : Heap) (locs : List Loc) (cw : va_W) (tys : List (ClassId × FieldType)) (tg : List yC) (ls : Array Slot), ldS D s (va_A cw0 s.heap.size) K3 ywL2 cw0 tg0 a H locs cw tys tg → lv_has ls (y_mL yrLd) [(0, .ref a)] → W p l e (y_rm yrLd) s m av.toArray below meth cd H locs 0 0 Q (F0 m 51 ls []) := by
    intro H locs cw tys tg ls hS hls
    exact ldRun (bb := false) (ix := 27) K3_st hFix (q := 48) (st := []) (k := fun _ _ h _ => y_eml h.2.2.2) (w := ywL2) (fu := 40) (by decide +kernel) hS hls trivial (by decide +kernel) (fun _ => fin) (fun z => by cases z) (fun _ _ _ _ z => z)
  -- 47: the house begins
  have h4 : ∀ (H : Heap) (locs : List Loc) (cw : va_W) (tys : List (ClassId × FieldType)) (tg : List yC) (ls : Array Slot), ldS D s (va_A cw0 s.heap.size) kNL ywL2 cw0 tg0 a H locs cw tys tg → lv_has ls (y_mL yrLd) [(0, .ref a)] → W p l e (y_rm yrLd) s m av.toArray below meth cd H locs 0 0 Q (F0 m 47 ls []) := by
    intro H locs cw tys tg ls hS hls
    refine ldRun (bb := true) (ix := 25) kNL_st hFix (q := 48) (st := []) (k := fun _ _ _ _ => false) (w := ywL2) (fu := 40) (by decide +kernel) hS hls trivial (by decide +kernel) nofin (fun _ H' locs' cw' tys' tg' ls' hS' hsm hls' => ?_) (fun _ _ _ _ z => by cases z)
    · refine ldCall hFix hS' hls' (q := 48) (j := 474) (x1 := yiBH) (x3 := 8079) (fl := 1) (List.mem_of_getElem? (i := 26) rfl) (cn := ycBH) rfl (by decide +kernel) ⟨by decide, ⟨by decide, by decide⟩, rfl, rfl⟩ (by decide +kernel) (BH_con b cw' tys' tg' H'.size [.ref a] [] (Nat.le_of_ble_eq_true rfl) (ann114 hS'.2.2.2.2.2.2.2.2) trivial hS'.2.2.2.2.1 ⟨Km_0 (by decide +kernel) _, hS'.2.2.2.2.2.1⟩) (K' := K3) (fun cw2 tys2 rv hX => ?_) (fun H2 locs2 cw2 tys2 tg2 rv hS2 hX => ?_)
      · obtain ⟨x1, x2, x3, tg2, x4, x5⟩ := B_out hX
        exact ⟨x3, tg2, x4, x5, x2⟩
      · obtain ⟨x1, _⟩ := B_out hX
        subst x1
        exact h5 H2 locs2 cw2 tys2 tg2 ls' hS2 hls'
  -- 43: the routes
  have h3 : ∀ (H : Heap) (locs : List Loc) (cw : va_W) (tys : List (ClassId × FieldType)) (tg : List yC) (ls : Array Slot), ldS D s (va_A cw0 s.heap.size) kNL ywL2 cw0 tg0 a H locs cw tys tg → lv_has ls (y_mL yrLd) [(0, .ref a)] → W p l e (y_rm yrLd) s m av.toArray below meth cd H locs 0 0 Q (F0 m 43 ls []) := by
    intro H locs cw tys tg ls hS hls
    refine ldRun (bb := true) (ix := 23) kNL_st hFix (q := 44) (st := []) (k := fun _ _ _ _ => false) (w := ywL2) (fu := 40) (by decide +kernel) hS hls trivial (by decide +kernel) nofin (fun _ H' locs' cw' tys' tg' ls' hS' hsm hls' => ?_) (fun _ _ _ _ z => by cases z)
    refine ldCall hFix hS' hls' (q := 44) (j := 471) (x1 := yiFR) (x3 := 10160) (fl := 1) (List.mem_of_getElem? (i := 24) rfl) (cn := ycFR) rfl (by decide +kernel) ⟨by decide, ⟨by decide, by decide⟩, rfl, rfl⟩ (by decide +kernel) (FR_con b cw' tys' tg' H'.size [.ref a] [] (Nat.le_of_ble_eq_true rfl) (ann114 hS'.2.2.2.2.2.2.2.2) trivial hS'.2.2.2.2.1 ⟨fun q z1 z2 z3 => by rw [yMB_ok (m := 991) (K := yKL) (by decide +kernel) (Or.inl rfl) q z1 z2 z3]; exact hS'.2.2.2.2.2.1.2, hS'.2.2.2.2.2.1.1⟩) (K' := kNL) (fun cw2 tys2 rv hX => ?_) (fun H2 locs2 cw2 tys2 tg2 rv hS2 hX => ?_)
    · obtain ⟨x1, x2, x3, tg2, x4, x5⟩ := F_out hX
      exact ⟨x3, tg2, x4, x5, x2⟩
    · obtain ⟨x1, _⟩ := F_out hX
      subst x1
      exact h4 H2 locs2 cw2 tys2 tg2 ls' hS2 hls'
  -- 28: was it read
  have h2 : ∀ (H : Heap) (locs : List Loc) (cw : va_W) (tys : List (ClassId × FieldType)) (tg : List yC) (ls : Array Slot), ldS D s (va_A cw0 s.heap.size) K3 ywL2 cw0 tg0 a H locs cw tys tg → lv_has ls (y_mL yrLd) [(0, .ref a)] → (∀ g : Nat, g < 16 → FR (UV cw) g) → W p l e (y_rm yrLd) s m av.toArray below meth cd H locs 0 0 Q (F0 m 28 ls [.int (nI 1)]) := by
    intro H locs cw tys tg ls hS hls hR
    refine ldRun (bb := true) (ix := 15) K3_st hFix (q := 40) (st := [.inl 1]) (k := fun _ _ _ _ => false) (w := ywL2) (fu := 40) (by decide +kernel) hS hls ⟨rfl, trivial⟩ (by decide +kernel) nofin (fun _ H' locs' cw' tys' tg' ls' hS' hsm hls' => ?_) (fun _ _ _ _ z => by cases z)
    have hR' : ∀ g : Nat, g < 16 → FR (UV cw') g := fun g hg => FR_ext (y_agr_same (y_outB_ok (by decide +kernel)) hsm hS.2.2.2.2.2.1.1.1) (hR g hg)
    have hK' := hS'.2.2.2.2.2.1
    have key : ∀ {cw2 : va_W} {tys2 : List (ClassId × FieldType)} {rv : Option Value}, XF zcls kT (ytb yw00) yfT ycTL cw' tg' cw2 tys2 rv → rv = none ∧ y_same (ytb yw00).1.length ycTL.2.2.2.2 cw' cw2 ∧ ∃ tg2 : List yC, (∀ (p : Nat) (t : yC), tg'[p]? = some t → tg2[p]? = some t) ∧ y_WT (ytb yw00) zcls tys2 tg2 cw2 ∧ kNL cw2 := fun {cw2 tys2 rv} hX => by
      obtain ⟨x1, ⟨f1, f2, f3⟩, x2, x3, tg2, x4, x5⟩ := T_out hX
      have hR2 : ∀ g : Nat, g < 16 → FR (UV cw2) g := fun g hg => FR_ext (y_agr_same (y_outB_ok (fT_out ycTL (List.mem_of_getElem? (i := 0) rfl)).1) x3 hK'.1.1) (hR' g hg)
      exact ⟨x1, x3, tg2, x4, x5, x2.1, KL_of x5 x2.1 x2.2 f1 hR2 f2 f3⟩
    refine ldCall hFix hS' hls' (q := 40) (j := 468) (x1 := yiTL) (x3 := 10156) (fl := 1) (List.mem_of_getElem? (i := 22) rfl) (cn := ycTL) rfl (by decide +kernel) ⟨by decide, ⟨by decide, by decide⟩, rfl, rfl⟩ (by decide +kernel) (fam_Met (yhsr yw00) (yhsf yw00) (K := kT) (fs := yfT) (c0 := ycTL) (List.mem_of_getElem? (i := 0) rfl) yfT_eq fT_con (Nat.le_of_ble_eq_true rfl) (ann114 hS'.2.2.2.2.2.2.2.2) hS'.2.2.2.2.1 (fun c hc => ⟨Km_0 (fT_mk c hc) _, hK'.1, KW_of hK'.2.1⟩)) (K' := kNL) (fun cw2 tys2 rv hX => (key hX).2) (fun H2 locs2 cw2 tys2 tg2 rv hS2 hX => ?_)
    obtain ⟨x1, _⟩ := key hX
    subst x1
    exact h3 H2 locs2 cw2 tys2 tg2 ls' hS2 hls'
  have hls0 : lv_has _ (y_mL yrLd) [(0, .ref a)] := ⟨hl.1, hl.2.1, y_forall (hl.2.2 _ (y_lookup_mem hv1)) y_fornil⟩
  have hS0 : ldS D s (va_A cw0 s.heap.size) K3 ywL2 cw0 tg0 a s.heap [] cw0 tys0 tg0 := ⟨hKK0, hP0, hD, va_S.rf, hW0, hK0, y_same_refl _ _ _, fun _ _ z => z, ha⟩
  have goal : W p l e (y_rm yrLd) s m av.toArray below meth cd s.heap [] 0 0 Q (F0 m 0 (lg_sl av ++ List.replicate (y_mL yrLd - (lg_sl av).length) Slot.unset).toArray []) := by
    refine ldRun (bb := true) (ix := 0) K3_st hFix (pc := 0) (q := 25) (st := []) (cst := []) (k := fun _ _ _ _ => false) (w := ywL2) (fu := 40) (by decide +kernel) hS0 hls0 trivial (by decide +kernel) nofin (fun _ H' locs' cw' tys' tg' ls' hS' hsm hls' => ?_) (fun _ _ _ _ z => by cases z)
    have hK' := hS'.2.2.2.2.2.1
    refine ldCall hFix hS' hls' (q := 25) (j := 465) (x1 := yiRL) (x3 := 10084) (fl := 1) (List.mem_of_getElem? (i := 14) rfl) (cn := ycRL) rfl (by decide +kernel) ⟨by decide, ⟨by decide, by decide⟩, rfl, rfl⟩ (by decide +kernel) (fam_Met (yhsr yw00) (yhsf yw00) (K := kR) (fs := yfR) (c0 := ycRL) (List.mem_of_getElem? (i := 0) rfl) yfR_eq fR_con (Nat.le_of_ble_eq_true rfl) (ann114 hS'.2.2.2.2.2.2.2.2) hS'.2.2.2.2.1 (fun c hc => ⟨K3_m hK' _, hK'.2⟩)) (K' := K3) (fun cw2 tys2 rv hX => ?_) (fun H2 locs2 cw2 tys2 tg2 rv hS2 hX => ?_)
    · obtain ⟨_, x2, x3, tg2, x4, x5⟩ := R_out hX
      exact ⟨x3, tg2, x4, x5, x2⟩
    · obtain ⟨x1, _⟩ := R_out hX
      rcases x1 with rfl | ⟨rfl, hR⟩
      · exact ldRun (bb := false) (ix := 15) K3_st hFix (pc := 28) (q := 40) (st := [.inl 0]) (cst := [.int (nI 0)]) (k := fun _ _ h _ => y_eml h.2.2.2) (w := ywL2) (fu := 40) (by decide +kernel) hS2 hls' ⟨rfl, trivial⟩ (by decide +kernel) (fun _ => fin) (fun z => by cases z) (fun _ _ _ _ z => z)
      · exact h2 H2 locs2 cw2 tys2 tg2 ls' hS2 hls' hR
  rw [hQ] at goal
  exact goal
