-- dispatch on both sides: what it needs, what it answers
/-- a cell's place -/
def dad (cw : va_W) (k : Nat) : Nat := ((cw.map Prod.fst)[k]?).getD 0
def dcI (cw : va_W) (r : Nat) : ClassId := match cw[r]? with
  | some (_, .inl o) => o.1
  | _ => 0
section XG
variable {w : yWr} {tys : List (ClassId × FieldType)} {tg : List yC} {cw : va_W}
theorem d_tg (hW : y_WT (ytbL w) zcls tys tg cw) {k : Nat} {t : yC} (h : ySh[k]? = some t) : tg[k]? = some t := by
  obtain ⟨dy, hdy, _⟩ := hW.2.1
  have hdy : tg = ySh ++ dy := hdy
  rw [hdy, List.getElem?_append_left (List.getElem?_eq_some_iff.mp h).1]
  exact h
theorem d_ad (hW : y_WT (ytbL w) zcls tys tg cw) {k : Nat} {t : yC} (h : ySh[k]? = some t) : (cw.map Prod.fst)[k]? = some (dad cw k) := by
  have h1 := (List.getElem?_eq_some_iff.mp (d_tg hW h)).1
  have h2 : k < (cw.map Prod.fst).length := by rw [List.length_map, hW.1]; exact h1
  unfold dad
  rw [List.getElem?_eq_getElem h2]
  rfl
theorem d_obj (hW : y_WT (ytbL w) zcls tys tg cw) {k ci : Nat} {ts : List yT} (h : ySh[k]? = some (.inl (ci, ts))) : ∃ vs, cw[k]? = some (dad cw k, .inr (ci, vs)) ∧ y_TL (y_tv (ytbL w) (cw.map Prod.fst) tg) ts vs := y_cobj (ρ := ([], fun _ => none, cw.map Prod.fst, tg)) hW rfl (d_ad hW h) (d_tg hW h)
theorem d_row (hW : y_WT (ytbL w) zcls tys tg cw) {r : Nat} {t : yT} (h : ySh[r]? = some (.inr (0, 7, t))) : cw[r]? = some (dad cw r, .inl (dcI cw r, 7, .inl (y_row cw r))) ∧ ∃ t0 : Nat, tys[t0]? = some (dcI cw r, .int) := by
  obtain ⟨e, g1, g2⟩ := y_cell (ρ := ([], fun _ => none, cw.map Prod.fst, tg)) hW rfl (d_ad hW h) (d_tg hW h)
  match e, g1, g2 with
  | .inl (cA, n, d), g1, ⟨h1, ⟨t0, h2⟩, f, h3, _⟩ =>
    have h1 : 7 = n := h1
    have h3 : d = .inl f := h3
    subst h1
    subst h3
    have e1 : dcI cw r = cA := by
      unfold dcI
      rw [g1]
    refine ⟨?_, t0, ?_⟩
    · rw [e1, y_row_eq g1]
      exact g1
    · rw [e1]
      exact h2
  | .inr _, _, h => exact h.elim
theorem d_ref {t : yT} {v : Value} {k : Nat} {u : yC} (hW : y_WT (ytbL w) zcls tys tg cw) (hk : ySh[k]? = some u) (ht : t = .inr (.inl [k])) (h : y_tv (ytbL w) (cw.map Prod.fst) tg t v) : v = .ref (dad cw k) := by
  subst ht
  obtain ⟨k', hk', a, h1, h2⟩ := h
  rw [List.mem_singleton.mp hk', d_ad hW hk] at h1
  rw [h2, ← Option.some.inj h1]
theorem y_TL_cons {f : yT → Value → Prop} {t : yT} {ts : List yT} {vs : List Value} (h : y_TL f (t :: ts) vs) : ∃ v vs', vs = v :: vs' ∧ f t v ∧ y_TL f ts vs' := by
  cases vs with
  | nil => exact h.elim
  | cons v vs => exact ⟨v, vs, rfl, h.1, h.2⟩
theorem y_TL_nil {f : yT → Value → Prop} {vs : List Value} (h : y_TL f [] vs) : vs = [] := by
  cases vs with
  | nil => rfl
  | cons v vs => exact h.elim
theorem d_small {x : Int32} (h : y_in [(2147483648, 2147483655)] (z_b x)) : ∃ n, n ≤ 7 ∧ x = nI n := by
  rcases y_in_cons.mp h with q | q
  · have q1 := q.1
    have q2 := q.2
    dsimp only at q1 q2
    refine ⟨z_b x - 2147483648, by omega, ?_⟩
    apply Int32.toInt_inj.mp
    have i1 := z_b_int x
    have i2 := dni_int (k := z_b x - 2147483648) (by omega)
    omega
  · exact absurd q y_in_nil
theorem d_bd {x : Int32} {hi : Nat} (h : y_in [(2147483648, 2147483648 + hi)] (z_b x)) : 0 ≤ x.toInt ∧ x.toInt ≤ hi := by
  rcases y_in_cons.mp h with q | q
  · have q1 := q.1
    have q2 := q.2
    dsimp only at q1 q2
    have i1 := z_b_int x
    omega
  · exact absurd q y_in_nil
theorem d_rows (hR : lwRr cw) : (∀ i, dB (dRo (y_row cw)) i) ∧ dRm (y_row cw) = dRo (y_row cw) := by
  obtain ⟨_, h2, _⟩ := hR
  have q0 := h2 (103, 213, [(0, 4294967295)]) (List.mem_of_getElem? (i := 0) rfl)
  have q1 := h2 (104, 214, [(2147483648, 2147484648)]) (List.mem_of_getElem? (i := 1) rfl)
  have q2 := h2 (105, 215, [(2147483648, 2147483748)]) (List.mem_of_getElem? (i := 2) rfl)
  have q3 := h2 (106, 216, [(2147483648, 2147485648)]) (List.mem_of_getElem? (i := 3) rfl)
  have q4 := h2 (107, 217, [(2147483648, 2147483668)]) (List.mem_of_getElem? (i := 4) rfl)
  refine ⟨fun i => ⟨d_bd (hi := 1000) (q1.2 i), d_bd (hi := 100) (q2.2 i), d_bd (hi := 2000) (q3.2 i), d_bd (hi := 20) (q4.2 i)⟩, ?_⟩
  unfold dRo dRm
  rw [← q0.1, ← q1.1, ← q2.1, ← q3.1, ← q4.1]
variable {l : Launch} {D : va_G} {b : Nat → Nat}
/-- what two contracts say of one call -/
theorem d_both {y : MethodName} {ws : List Jvm.Cond} {rm : Room} {Pc : Array Value → State → Prop} {mc ms : Nat} {free : Addr → Prop} {sz : Nat} {X X2 : va_W → List (ClassId × FieldType) → Option Value → Prop} (h1 : Met l y ws rm Pc (y_Q zcls D X cw sz) mc ms free) (h2 : Met l y ws rm Pc (y_Q zcls D X2 cw sz) mc ms free) : Met l y ws rm Pc (y_Q zcls D (fun cw' tys' rv => X cw' tys' rv ∧ ∃ (cw2 : va_W) (tys2 : List (ClassId × FieldType)) (H : Heap), X2 cw2 tys2 rv ∧ va_P D zcls cw' H ∧ va_P D zcls cw2 H) cw sz) mc ms free := by
  refine y_Met_post (y_Met_all (ι := Bool) true (Q := fun i => cond i (y_Q zcls D X cw sz) (y_Q zcls D X2 cw sz)) (fun i => ?_)) ?_
  · cases i with
    | true => exact h1
    | false => exact h2
  · intro a st o t h
    obtain ⟨⟨cw', tys', rv, q1, q2, q3, q4, q5⟩, hF⟩ := h true
    obtain ⟨⟨cw2, tys2, rv2, p1, p2, _, _, p5⟩, _⟩ := h false
    have e : rv = rv2 := by
      rw [q1] at p1
      cases p1
      rfl
    subst e
    exact ⟨⟨cw', tys', rv, q1, q2, q3, q4, q5, cw2, tys2, t.heap, p5, q2, p2⟩, hF⟩
/-- one heap, one row -/
theorem d_lkr {cw2 : va_W} {H : Heap} {a r : Nat} {cA cB : ClassId} {f g : Nat → Int32} (h1 : va_P D zcls cw H) (h2 : va_P D zcls cw2 H) (e1 : cw[r]? = some (a, .inl (cA, 7, .inl f))) (e2 : cw2[r]? = some (a, .inl (cB, 7, .inl g))) : ∀ j, j < 7 → f j = g j := by
  intro j hj
  have q1 : H[a]? = some (arrV cA 7 (fun j => .int (f j))) := h1 r _ e1
  have q2 : H[a]? = some (arrV cB 7 (fun j => .int (g j))) := h2 r _ e2
  rw [q1] at q2
  have q3 := congrArg (fun c : Cell => c.slots[j]?) (Option.some.inj q2)
  rw [arrV_read _ _ hj, arrV_read _ _ hj] at q3
  exact Value.int.inj (Option.some.inj q3)
theorem d_lkf {cw2 : va_W} {H : Heap} {a ci k f N : Nat} {C : String} {T : u_T} {vs ws : List Value} {x y : Value} (h1 : va_P D zcls cw H) (h2 : va_P D zcls cw2 H) (hc : zcls[ci]? = some (C, T, N)) (hf : f < N) (e1 : cw[k]? = some (a, .inr (ci, vs))) (e2 : cw2[k]? = some (a, .inr (ci, ws))) (g1 : vs[f]? = some x) (g2 : ws[f]? = some y) : x = y := by
  obtain ⟨r1, z1, c1, q1, _, _, q2⟩ := h1 k _ e1
  obtain ⟨r2, z2, c2, p1, _, _, p2⟩ := h2 k _ e2
  have z1 : zcls[ci]? = some r1 := z1
  have z2 : zcls[ci]? = some r2 := z2
  rw [hc] at z1 z2
  cases z1
  cases z2
  have p1 : H[a]? = some c2 := p1
  have q1 : H[a]? = some c1 := q1
  rw [q1] at p1
  cases p1
  have i1 := q2 f hf
  have i2 := p2 f hf
  rw [i1] at i2
  have i3 : vs.getD f .null = ws.getD f .null := Option.some.inj i2
  rw [List.getD_eq_getElem?_getD, List.getD_eq_getElem?_getD, g1, g2] at i3
  exact i3
theorem dfold_len {R : dR} (hB : ∀ i, dB R i) {n : Nat} (hn : n ≤ 7) : ∀ (l : List (List Nat)) (β : Int32 × List Nat), (∀ q ∈ l, q.length = n) → (β.2.length = n ∨ (l ≠ [] ∧ β = dβ0)) → (l.foldl (dup R) β).2.length = n
  | [], β, _, h => by
    rcases h with h | h
    · exact h
    · exact absurd rfl h.1
  | q :: l, β, hl, h => by
    rw [List.foldl_cons]
    refine dfold_len hB hn l _ (fun p hp => hl p (List.mem_cons_of_mem _ hp)) (Or.inl ?_)
    have hq := hl q List.mem_cons_self
    unfold dup
    split
    · exact hq
    · rename_i hc
      rcases h with h | h
      · exact h
      · rw [h.2] at hc
        have h1 := dco_in hB q (by omega)
        have h2 : (dβ0.1).toInt = 2147483647 := by decide
        exact absurd (Int32.lt_iff_toInt_lt.mpr (by omega)) hc
theorem dtr_len {R : dR} (hB : ∀ i, dB R i) {n : Nat} (hn : n ≤ 7) : (dtr R n n [] dβ0).2.length = n := by
  refine dfold_len hB hn _ _ (fun q hq => ?_) (Or.inr ⟨fun z => ?_, rfl⟩)
  · have := (dex_mem (n := n) n [] (fun t ht => by cases ht) q hq).1
    simp only [List.length_nil] at this
    omega
  · have h := dchk_le hn
    unfold dchk at h
    rw [z] at h
    cases h
/-- what dispatch leaves of the best order; V0: as it was -/
def dEnd (R : dR) (n o b f : Nat) (V0 V : Nat → Nat → Int32) : Prop := ∃ V' : Nat → Nat → Int32, dBst R (V' o) (V' b) (V' f) (dtr R n n [] dβ0).2 ∧ (∀ i, n ≤ i → V' o i = V0 o i ∧ V' b i = V0 b i ∧ V' f i = V0 f i) ∧ ∀ j, j < 7 → V o j = V' o j ∧ V b j = V' b j ∧ V f j = V' f j
theorem lwDis1 (hW : y_WT (ytbL ywLw) zcls tys tg cw) (hR : lwRr cw) {aX : Nat} (h0 : (cw.map Prod.fst)[0]? = some aX) (sz : Nat) : ∃ n, n ≤ 7 ∧ y_fld cw lwZc lwZf = nI n ∧ Met l (y_y yc135.1) (y_ws ztb yc135.1) (y_rm yc135.1) (y_Pc znw b zcls D cw tys sz [.ref aX]) (y_Q zcls D (fun cw' tys' rv => y_XC zcls (fun cw => y_kc yc135.2.2.2.2 = true → K3 cw) (ytbL ywLw) yc135 [] cw tg cw' tys' rv ∧ rv = some (.int (dtr (dRo (y_row cw)) n n [] dβ0).1) ∧ y_fld cw' 102 1 = nI n ∧ dEnd (dRo (y_row cw)) n 110 111 112 (y_row cw) (y_row cw')) cw sz) (y_rm yc135.1).cells (y_rm yc135.1).slots (va_A cw sz) := by
  obtain ⟨vs, c2, tH⟩ := d_obj (k := 102) (ci := 3) (ts := [.inl [(2147483648, 2147483655)], .inl [(2147483648, 2147483655)], .inr (.inl [103]), .inr (.inl [104]), .inr (.inl [105]), .inr (.inl [106]), .inr (.inl [107]), .inr (.inl [108]), .inr (.inl [109]), .inr (.inl [110]), .inr (.inl [111]), .inr (.inl [112]), .inl [(0, 4294967295)]]) hW rfl
  obtain ⟨x, od, bc, hvs, hx⟩ : ∃ x od bc, vs = xLn (dad cw) x od bc ∧ y_in [(2147483648, 2147483655)] (z_b x) := by
    obtain ⟨v0, vs, rfl, h0, tH⟩ := y_TL_cons tH
    obtain ⟨v1, vs, rfl, h1, tH⟩ := y_TL_cons tH
    obtain ⟨v2, vs, rfl, h2, tH⟩ := y_TL_cons tH
    obtain ⟨v3, vs, rfl, h3, tH⟩ := y_TL_cons tH
    obtain ⟨v4, vs, rfl, h4, tH⟩ := y_TL_cons tH
    obtain ⟨v5, vs, rfl, h5, tH⟩ := y_TL_cons tH
    obtain ⟨v6, vs, rfl, h6, tH⟩ := y_TL_cons tH
    obtain ⟨v7, vs, rfl, h7, tH⟩ := y_TL_cons tH
    obtain ⟨v8, vs, rfl, h8, tH⟩ := y_TL_cons tH
    obtain ⟨v9, vs, rfl, h9, tH⟩ := y_TL_cons tH
    obtain ⟨v10, vs, rfl, h10, tH⟩ := y_TL_cons tH
    obtain ⟨v11, vs, rfl, h11, tH⟩ := y_TL_cons tH
    obtain ⟨v12, vs, rfl, h12, tH⟩ := y_TL_cons tH
    have e13 := y_TL_nil tH
    subst e13
    obtain ⟨x, e0, hx⟩ := h0
    obtain ⟨od, e1, _⟩ := h1
    obtain ⟨bc, e12, _⟩ := h12
    refine ⟨x, od, bc, ?_, hx⟩
    rw [show v0 = .int x from e0, show v1 = .int od from e1, d_ref (k := 103) hW rfl rfl h2, d_ref (k := 104) hW rfl rfl h3, d_ref (k := 105) hW rfl rfl h4, d_ref (k := 106) hW rfl rfl h5, d_ref (k := 107) hW rfl rfl h6, d_ref (k := 108) hW rfl rfl h7, d_ref (k := 109) hW rfl rfl h8, d_ref (k := 110) hW rfl rfl h9, d_ref (k := 111) hW rfl rfl h10, d_ref (k := 112) hW rfl rfl h11, show v12 = .int bc from e12]
    rfl
  obtain ⟨n, hn, rfl⟩ := d_small hx
  subst hvs
  have hr : ∀ r, 103 ≤ r → r < 113 → cw[r]? = some (dad cw r, .inl (dcI cw r, 7, .inl (y_row cw r))) ∧ ∃ t0 : Nat, tys[t0]? = some (dcI cw r, .int) := by
    intro r g1 g2
    rcases (by omega : r = 103 ∨ r = 104 ∨ r = 105 ∨ r = 106 ∨ r = 107 ∨ r = 108 ∨ r = 109 ∨ r = 110 ∨ r = 111 ∨ r = 112) with rfl | rfl | rfl | rfl | rfl | rfl | rfl | rfl | rfl | rfl <;> exact d_row hW rfl
  obtain ⟨vs0, c0, t0⟩ := d_obj (k := 0) (ci := 11) (ts := ySts 0) hW rfl
  obtain ⟨w8, f8, hw8⟩ := y_TL_get (k := 8) (t := .inr (.inl [102])) t0 rfl
  have e8 := d_ref (k := 102) hW rfl rfl hw8
  subst e8
  have ea : aX = dad cw 0 := by
    rw [d_ad (k := 0) hW rfl] at h0
    exact (Option.some.inj h0).symm
  subst ea
  refine ⟨n, hn, y_fld_eq c2 rfl, y_Met_post (d_both (X2 := fun cw' tys' rv => rv = some (.int (dtr (dRo (y_row cw)) n n [] dβ0).1) ∧ tys' = tys ∧ ∃ V', dI (dad cw) (dcI cw) cw n (nI n) (y_row cw) V' (dtr (dRo (y_row cw)) n n [] dβ0) cw') (lwC 135 yc135 rfl (by decide) (by decide +kernel) b cw tys tg sz [.ref (dad cw 0)] [] (Nat.le_of_ble_eq_true rfl) ⟨y_forall ⟨.ref (dad cw 0), rfl, 0, List.mem_singleton.mpr rfl, dad cw 0, h0, rfl⟩ y_fornil, fun q hq => (by cases hq), trivial⟩ trivial hW (fun z => absurd z (by decide +kernel))) (dM_dis hn (d_rows hR).1 (fun r g1 g2 => (hr r g1 g2).2) ⟨c2, fun r g1 g2 => (hr r g1 g2).1, rfl, fun _ _ _ => rfl⟩ c0 f8) ) ?_⟩
  rintro a0 st oc t ⟨⟨cw', tys', rv, q1, q2, q3, q4, q5, cw2, tys2, H, ⟨p1, p2, V', hJ⟩, w1, w2⟩, hF⟩
  refine ⟨⟨cw', tys', rv, q1, q2, q3, q4, q5, p1, ?_⟩, hF⟩
  obtain ⟨tg', oo, k1, k2, k3, k4, k5, k6, k7, k8⟩ := q5
  have ead : ∀ {u : yC} (r : Nat), ySh[r]? = some u → dad cw' r = dad cw r := fun r hr => by
    have h1 := k6.1 r _ (d_ad hW hr)
    rw [d_ad k7 hr] at h1
    exact Option.some.inj h1
  have l110 : ∀ j, j < 7 → y_row cw' 110 j = V' 110 j := by
    have h1 := (d_row (r := 110) k7 rfl).1
    rw [ead 110 rfl] at h1
    exact d_lkr w1 w2 h1 (hJ.c.hR 110 (by decide) (by decide))
  have l111 : ∀ j, j < 7 → y_row cw' 111 j = V' 111 j := by
    have h1 := (d_row (r := 111) k7 rfl).1
    rw [ead 111 rfl] at h1
    exact d_lkr w1 w2 h1 (hJ.c.hR 111 (by decide) (by decide))
  have l112 : ∀ j, j < 7 → y_row cw' 112 j = V' 112 j := by
    have h1 := (d_row (r := 112) k7 rfl).1
    rw [ead 112 rfl] at h1
    exact d_lkr w1 w2 h1 (hJ.c.hR 112 (by decide) (by decide))
  refine ⟨?_, V', hJ.k, hJ.b, fun j hj => ⟨l110 j hj, l111 j hj, l112 j hj⟩⟩
  obtain ⟨a', vs', x', g1, g2, _⟩ := y_fldOf (c := 102) (f := 1) (ts := ySts 102) (E := [(2147483648, 2147483655)]) k7 rfl rfl
  have ea' : a' = dad cw 102 := by
    have h1 := d_ad (k := 102) k7 rfl
    rw [List.getElem?_map, g1, ead 102 rfl] at h1
    exact Option.some.inj h1
  rw [ea'] at g1
  rw [y_fld_eq (by rw [← ea'] at g1; exact g1) g2]
  have := d_lkf w1 w2 (ci := 3) rfl (by decide) g1 hJ.c.hO g2 (show _ = some (Value.int (nI n)) from rfl)
  cases this
  rfl
theorem lwDis2m (hW : y_WT (ytbL ywLw) zcls tys tg cw) (hBm : ∀ i, dB (dRm (y_row cw)) i) {aM : Nat} (h0 : (cw.map Prod.fst)[114]? = some aM) (sz : Nat) : ∃ n, n ≤ 7 ∧ y_fld cw 114 lwZm = nI n ∧ Met l (y_y yc205.1) (y_ws ztb yc205.1) (y_rm yc205.1) (y_Pc znw b zcls D cw tys sz [.ref aM]) (y_Q zcls D (fun cw' tys' rv => y_XC zcls (fun cw => y_kc yc205.2.2.2.2 = true → K3 cw) (ytbL ywLw) yc205 [] cw tg cw' tys' rv ∧ rv = some (.int (dtr (dRm (y_row cw)) n n [] dβ0).1) ∧ y_fld cw' 114 142 = nI n ∧ dEnd (dRm (y_row cw)) n 221 222 223 (y_row cw) (y_row cw')) cw sz) (y_rm yc205.1).cells (y_rm yc205.1).slots (va_A cw sz) := by
  obtain ⟨vs, c2, tH⟩ := d_obj (k := 114) (ci := 12) (ts := ySts 114) hW rfl
  obtain ⟨w0, f0, x, e0, hx⟩ := y_TL_get (k := 133) (t := .inl [(2147483648, 2147483655)]) tH rfl
  have e0 : w0 = .int x := e0
  subst e0
  obtain ⟨n, hn, rfl⟩ := d_small hx
  have hv : dMv (dad cw) n vs := by
    have key : ∀ (k r : Nat) (u : yC), (ySts 114)[k]? = some (.inr (.inl [r])) → ySh[r]? = some u → vs[k]? = some (.ref (dad cw r)) := fun k r u g1 g2 => by
      obtain ⟨w, f, hw⟩ := y_TL_get tH g1
      rw [f, d_ref hW g2 rfl hw]
    obtain ⟨w1, f1, _⟩ := y_TL_get (k := 142) (t := .inl [(2147483648, 2147483655)]) tH rfl
    exact ⟨f0, key 134 213 _ rfl rfl, key 135 214 _ rfl rfl, key 136 215 _ rfl rfl, key 137 216 _ rfl rfl, key 138 217 _ rfl rfl, key 139 218 _ rfl rfl, key 140 219 _ rfl rfl, key 141 220 _ rfl rfl, (List.getElem?_eq_some_iff.mp f1).1, key 143 221 _ rfl rfl, key 144 222 _ rfl rfl, key 145 223 _ rfl rfl⟩
  have hr : ∀ r, 213 ≤ r → r < 224 → cw[r]? = some (dad cw r, .inl (dcI cw r, 7, .inl (y_row cw r))) ∧ ∃ t0 : Nat, tys[t0]? = some (dcI cw r, .int) := by
    intro r g1 g2
    rcases (by omega : r = 213 ∨ r = 214 ∨ r = 215 ∨ r = 216 ∨ r = 217 ∨ r = 218 ∨ r = 219 ∨ r = 220 ∨ r = 221 ∨ r = 222 ∨ r = 223) with rfl | rfl | rfl | rfl | rfl | rfl | rfl | rfl | rfl | rfl | rfl <;> exact d_row hW rfl
  have ea : aM = dad cw 114 := by
    rw [d_ad (k := 114) hW rfl] at h0
    exact (Option.some.inj h0).symm
  subst ea
  refine ⟨n, hn, y_fld_eq c2 f0, y_Met_post (d_both (X2 := fun cw' tys' rv => rv = some (.int (dtr (dRm (y_row cw)) n n [] dβ0).1) ∧ tys' = tys ∧ ∃ V', dJ (dad cw) (dcI cw) cw n (vs.set 142 (.int (nI n))) (y_row cw) V' (dtr (dRm (y_row cw)) n n [] dβ0) cw') (lwC 205 yc205 rfl (by decide) (by decide +kernel) b cw tys tg sz [.ref (dad cw 114)] [] (Nat.le_of_ble_eq_true rfl) ⟨y_forall ⟨.ref (dad cw 114), rfl, 114, List.mem_singleton.mpr rfl, dad cw 114, h0, rfl⟩ y_fornil, fun q hq => (by cases hq), trivial⟩ trivial hW (fun z => absurd z (by decide +kernel))) (dM_dim hn hBm hv (fun r g1 g2 => (hr r g1 g2).2) ⟨c2, fun r g1 g2 => (hr r g1 g2).1, rfl, fun _ _ _ => rfl⟩) ) ?_⟩
  rintro a0 st oc t ⟨⟨cw', tys', rv, q1, q2, q3, q4, q5, cw2, tys2, H, ⟨p1, p2, V', hJ⟩, w1, w2⟩, hF⟩
  refine ⟨⟨cw', tys', rv, q1, q2, q3, q4, q5, p1, ?_⟩, hF⟩
  obtain ⟨tg', oo, k1, k2, k3, k4, k5, k6, k7, k8⟩ := q5
  have ead : ∀ {u : yC} (r : Nat), ySh[r]? = some u → dad cw' r = dad cw r := fun r hr => by
    have h1 := k6.1 r _ (d_ad hW hr)
    rw [d_ad k7 hr] at h1
    exact Option.some.inj h1
  have l221 : ∀ j, j < 7 → y_row cw' 221 j = V' 221 j := by
    have h1 := (d_row (r := 221) k7 rfl).1
    rw [ead 221 rfl] at h1
    exact d_lkr w1 w2 h1 (hJ.c.hR 221 (by decide) (by decide))
  have l222 : ∀ j, j < 7 → y_row cw' 222 j = V' 222 j := by
    have h1 := (d_row (r := 222) k7 rfl).1
    rw [ead 222 rfl] at h1
    exact d_lkr w1 w2 h1 (hJ.c.hR 222 (by decide) (by decide))
  have l223 : ∀ j, j < 7 → y_row cw' 223 j = V' 223 j := by
    have h1 := (d_row (r := 223) k7 rfl).1
    rw [ead 223 rfl] at h1
    exact d_lkr w1 w2 h1 (hJ.c.hR 223 (by decide) (by decide))
  refine ⟨?_, V', hJ.k, hJ.b, fun j hj => ⟨l221 j hj, l222 j hj, l223 j hj⟩⟩
  obtain ⟨a', vs', x', g1, g2, _⟩ := y_fldOf (c := 114) (f := 142) (ts := ySts 114) (E := [(2147483648, 2147483655)]) k7 rfl rfl
  have ea' : a' = dad cw 114 := by
    have h1 := d_ad (k := 114) k7 rfl
    rw [List.getElem?_map, g1, ead 114 rfl] at h1
    exact Option.some.inj h1
  rw [ea'] at g1
  rw [y_fld_eq (by rw [← ea'] at g1; exact g1) g2]
  have := d_lkf w1 w2 (ci := 12) rfl (by decide) g1 hJ.c.hO g2 (List.getElem?_set_self hv.h142)
  cases this
  rfl
end XG
