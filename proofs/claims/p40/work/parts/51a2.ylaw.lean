-- journey on both sides: cells, two contracts of one call
/-- a cell's place -/
def dad (cw : va_W) (k : Nat) : Nat := ((cw.map Prod.fst)[k]?).getD 0
def dcI (cw : va_W) (r : Nat) : ClassId := match cw[r]? with
  | some (_, .inl o) => o.1
  | _ => 0
section XG
variable {w : yWr} {tys : List (ClassId × FieldType)} {tg : List yC} {cw : va_W}
theorem d_tg (hW : y_WT (ytbL w) zcls tys tg cw) {k : Nat} {t : yC} (h : ySh[k]? = some t) : tg[k]? = some t := by
  obtain ⟨dy, hdy, _⟩ := hW.2.1
  have hdy : tg = ySh ++ dy := hdy
  rw [hdy, List.getElem?_append_left (List.getElem?_eq_some_iff.mp h).1]
  exact h
theorem d_ad (hW : y_WT (ytbL w) zcls tys tg cw) {k : Nat} {t : yC} (h : ySh[k]? = some t) : (cw.map Prod.fst)[k]? = some (dad cw k) := by
  have h1 := (List.getElem?_eq_some_iff.mp (d_tg hW h)).1
  have h2 : k < (cw.map Prod.fst).length := by rw [List.length_map, hW.1]; exact h1
  unfold dad
  rw [List.getElem?_eq_getElem h2]
  rfl
theorem d_obj (hW : y_WT (ytbL w) zcls tys tg cw) {k ci : Nat} {ts : List yT} (h : ySh[k]? = some (.inl (ci, ts))) : ∃ vs, cw[k]? = some (dad cw k, .inr (ci, vs)) ∧ y_TL (y_tv (ytbL w) (cw.map Prod.fst) tg) ts vs := y_cobj (ρ := ([], fun _ => none, cw.map Prod.fst, tg)) hW rfl (d_ad hW h) (d_tg hW h)
theorem d_row (hW : y_WT (ytbL w) zcls tys tg cw) {r : Nat} {t : yT} (h : ySh[r]? = some (.inr (0, 7, t))) : cw[r]? = some (dad cw r, .inl (dcI cw r, 7, .inl (y_row cw r))) ∧ ∃ t0 : Nat, tys[t0]? = some (dcI cw r, .int) := by
  obtain ⟨e, g1, g2⟩ := y_cell (ρ := ([], fun _ => none, cw.map Prod.fst, tg)) hW rfl (d_ad hW h) (d_tg hW h)
  match e, g1, g2 with
  | .inl (cA, n, d), g1, ⟨h1, ⟨t0, h2⟩, f, h3, _⟩ =>
    have h1 : 7 = n := h1
    have h3 : d = .inl f := h3
    subst h1
    subst h3
    have e1 : dcI cw r = cA := by
      unfold dcI
      rw [g1]
    refine ⟨?_, t0, ?_⟩
    · rw [e1, y_row_eq g1]
      exact g1
    · rw [e1]
      exact h2
  | .inr _, _, h => exact h.elim
theorem d_ref {t : yT} {v : Value} {k : Nat} {u : yC} (hW : y_WT (ytbL w) zcls tys tg cw) (hk : ySh[k]? = some u) (ht : t = .inr (.inl [k])) (h : y_tv (ytbL w) (cw.map Prod.fst) tg t v) : v = .ref (dad cw k) := by
  subst ht
  obtain ⟨k', hk', a, h1, h2⟩ := h
  rw [List.mem_singleton.mp hk', d_ad hW hk] at h1
  rw [h2, ← Option.some.inj h1]
theorem y_TL_cons {f : yT → Value → Prop} {t : yT} {ts : List yT} {vs : List Value} (h : y_TL f (t :: ts) vs) : ∃ v vs', vs = v :: vs' ∧ f t v ∧ y_TL f ts vs' := by
  cases vs with
  | nil => exact h.elim
  | cons v vs => exact ⟨v, vs, rfl, h.1, h.2⟩
theorem y_TL_nil {f : yT → Value → Prop} {vs : List Value} (h : y_TL f [] vs) : vs = [] := by
  cases vs with
  | nil => rfl
  | cons v vs => exact h.elim
theorem d_small {x : Int32} (h : y_in [(2147483648, 2147483655)] (z_b x)) : ∃ n, n ≤ 7 ∧ x = nI n := by
  rcases y_in_cons.mp h with q | q
  · have q1 := q.1
    have q2 := q.2
    dsimp only at q1 q2
    refine ⟨z_b x - 2147483648, by omega, ?_⟩
    apply Int32.toInt_inj.mp
    have i1 := z_b_int x
    have i2 := dni_int (k := z_b x - 2147483648) (by omega)
    omega
  · exact absurd q y_in_nil
theorem d_bd {x : Int32} {hi : Nat} (h : y_in [(2147483648, 2147483648 + hi)] (z_b x)) : 0 ≤ x.toInt ∧ x.toInt ≤ hi := by
  rcases y_in_cons.mp h with q | q
  · have q1 := q.1
    have q2 := q.2
    dsimp only at q1 q2
    have i1 := z_b_int x
    omega
  · exact absurd q y_in_nil
variable {l : Launch} {D : va_G} {b : Nat → Nat}
/-- what two contracts say of one call -/
theorem d_both {y : MethodName} {ws : List Jvm.Cond} {rm : Room} {Pc : Array Value → State → Prop} {mc ms : Nat} {free : Addr → Prop} {sz : Nat} {X X2 : va_W → List (ClassId × FieldType) → Option Value → Prop} (h1 : Met l y ws rm Pc (y_Q zcls D X cw sz) mc ms free) (h2 : Met l y ws rm Pc (y_Q zcls D X2 cw sz) mc ms free) : Met l y ws rm Pc (y_Q zcls D (fun cw' tys' rv => X cw' tys' rv ∧ ∃ (cw2 : va_W) (tys2 : List (ClassId × FieldType)) (H : Heap), X2 cw2 tys2 rv ∧ va_P D zcls cw' H ∧ va_P D zcls cw2 H) cw sz) mc ms free := by
  refine y_Met_post (y_Met_all (ι := Bool) true (Q := fun i => cond i (y_Q zcls D X cw sz) (y_Q zcls D X2 cw sz)) (fun i => ?_)) ?_
  · cases i with
    | true => exact h1
    | false => exact h2
  · intro a st o t h
    obtain ⟨⟨cw', tys', rv, q1, q2, q3, q4, q5⟩, hF⟩ := h true
    obtain ⟨⟨cw2, tys2, rv2, p1, p2, _, _, p5⟩, _⟩ := h false
    have e : rv = rv2 := by
      rw [q1] at p1
      cases p1
      rfl
    subst e
    exact ⟨⟨cw', tys', rv, q1, q2, q3, q4, q5, cw2, tys2, t.heap, p5, q2, p2⟩, hF⟩
/-- one heap, one row -/
theorem d_lkr {cw2 : va_W} {H : Heap} {a r : Nat} {cA cB : ClassId} {f g : Nat → Int32} (h1 : va_P D zcls cw H) (h2 : va_P D zcls cw2 H) (e1 : cw[r]? = some (a, .inl (cA, 7, .inl f))) (e2 : cw2[r]? = some (a, .inl (cB, 7, .inl g))) : ∀ j, j < 7 → f j = g j := by
  intro j hj
  have q1 : H[a]? = some (arrV cA 7 (fun j => .int (f j))) := h1 r _ e1
  have q2 : H[a]? = some (arrV cB 7 (fun j => .int (g j))) := h2 r _ e2
  rw [q1] at q2
  have q3 := congrArg (fun c : Cell => c.slots[j]?) (Option.some.inj q2)
  rw [arrV_read _ _ hj, arrV_read _ _ hj] at q3
  exact Value.int.inj (Option.some.inj q3)
theorem d_lkf {cw2 : va_W} {H : Heap} {a ci k f N : Nat} {C : String} {T : u_T} {vs ws : List Value} {x y : Value} (h1 : va_P D zcls cw H) (h2 : va_P D zcls cw2 H) (hc : zcls[ci]? = some (C, T, N)) (hf : f < N) (e1 : cw[k]? = some (a, .inr (ci, vs))) (e2 : cw2[k]? = some (a, .inr (ci, ws))) (g1 : vs[f]? = some x) (g2 : ws[f]? = some y) : x = y := by
  obtain ⟨r1, z1, c1, q1, _, _, q2⟩ := h1 k _ e1
  obtain ⟨r2, z2, c2, p1, _, _, p2⟩ := h2 k _ e2
  have z1 : zcls[ci]? = some r1 := z1
  have z2 : zcls[ci]? = some r2 := z2
  rw [hc] at z1 z2
  cases z1
  cases z2
  have p1 : H[a]? = some c2 := p1
  have q1 : H[a]? = some c1 := q1
  rw [q1] at p1
  cases p1
  have i1 := q2 f hf
  have i2 := p2 f hf
  rw [i1] at i2
  have i3 : vs.getD f .null = ws.getD f .null := Option.some.inj i2
  rw [List.getD_eq_getElem?_getD, List.getD_eq_getElem?_getD, g1, g2] at i3
  exact i3
end XG
-- journey on both sides: what it needs, what it answers
/-- a row of longs -/
def dLo (cw : va_W) (r : Nat) : Nat → Int64 := match cw[r]? with
  | some (_, .inl (_, _, .inr (.inl f))) => f
  | _ => fun _ => 0
section YG
variable {w : yWr} {tys : List (ClassId × FieldType)} {tg : List yC} {cw : va_W}
theorem d_rowN (hW : y_WT (ytbL w) zcls tys tg cw) {r n : Nat} {t : yT} (h : ySh[r]? = some (.inr (0, n, t))) : cw[r]? = some (dad cw r, .inl (dcI cw r, n, .inl (y_row cw r))) ∧ (∃ t0 : Nat, tys[t0]? = some (dcI cw r, .int)) ∧ ∀ j, j < n → y_tv (ytbL w) (cw.map Prod.fst) tg t (.int (y_row cw r j)) := by
  obtain ⟨e, g1, g2⟩ := y_cell (ρ := ([], fun _ => none, cw.map Prod.fst, tg)) hW rfl (d_ad hW h) (d_tg hW h)
  match e, g1, g2 with
  | .inl (cA, n', d), g1, ⟨h1, ⟨t0, h2⟩, f, h3, h4⟩ =>
    have h1 : n = n' := h1
    have h3 : d = .inl f := h3
    subst h1
    subst h3
    have e1 : dcI cw r = cA := by
      unfold dcI
      rw [g1]
    refine ⟨?_, ⟨t0, ?_⟩, ?_⟩
    · rw [e1, y_row_eq g1]
      exact g1
    · rw [e1]
      exact h2
    · rw [y_row_eq g1]
      exact h4
  | .inr _, _, h => exact h.elim
theorem d_rowL (hW : y_WT (ytbL w) zcls tys tg cw) {r n : Nat} {t : yT} (h : ySh[r]? = some (.inr (3, n, t))) : cw[r]? = some (dad cw r, .inl (dcI cw r, n, .inr (.inl (dLo cw r)))) ∧ ∃ t0 : Nat, tys[t0]? = some (dcI cw r, .long) := by
  obtain ⟨e, g1, g2⟩ := y_cell (ρ := ([], fun _ => none, cw.map Prod.fst, tg)) hW rfl (d_ad hW h) (d_tg hW h)
  match e, g1, g2 with
  | .inl (cA, n', d), g1, ⟨h1, ⟨t0, h2⟩, f, h3⟩ =>
    have h1 : n = n' := h1
    have h3 : d = .inr (.inl f) := h3
    subst h1
    subst h3
    have e1 : dcI cw r = cA := by
      unfold dcI
      rw [g1]
    have e2 : dLo cw r = f := by
      unfold dLo
      rw [g1]
    refine ⟨?_, t0, ?_⟩
    · rw [e1, e2]
      exact g1
    · rw [e1]
      exact h2
  | .inr _, _, h => exact h.elim
/-- what the shapes do not say of the timetable -/
def jbd (S st ar dp ch zn : Nat → Int32) : Prop := (∀ r, r < 12 → y_in [(2147483648, 2147483656)] (z_b (S r))) ∧ (∀ p, p < 96 → y_in [(2147483648, 2147483655)] (z_b (st p))) ∧ (∀ p, p < 96 → y_in [(2147483648, 2147493648)] (z_b (ar p))) ∧ (∀ p, p < 96 → y_in [(2147483648, 2147493648)] (z_b (dp p))) ∧ (∀ s, s < 8 → y_in [(2147483648, 2147483708)] (z_b (ch s))) ∧ (∀ s, s < 8 → y_in [(2147483648, 2147483657)] (z_b (zn s)))
theorem jbd.S {S st ar dp ch zn : Nat → Int32} (h : jbd S st ar dp ch zn) : ∀ r, r < 12 → y_in [(2147483648, 2147483656)] (z_b (S r)) := h.1
theorem jbd.st {S st ar dp ch zn : Nat → Int32} (h : jbd S st ar dp ch zn) : ∀ p, p < 96 → y_in [(2147483648, 2147483655)] (z_b (st p)) := h.2.1
theorem jbd.ar {S st ar dp ch zn : Nat → Int32} (h : jbd S st ar dp ch zn) : ∀ p, p < 96 → y_in [(2147483648, 2147493648)] (z_b (ar p)) := h.2.2.1
theorem jbd.dp {S st ar dp ch zn : Nat → Int32} (h : jbd S st ar dp ch zn) : ∀ p, p < 96 → y_in [(2147483648, 2147493648)] (z_b (dp p)) := h.2.2.2.1
theorem jbd.ch {S st ar dp ch zn : Nat → Int32} (h : jbd S st ar dp ch zn) : ∀ s, s < 8 → y_in [(2147483648, 2147483708)] (z_b (ch s)) := h.2.2.2.2.1
theorem jbd.zn {S st ar dp ch zn : Nat → Int32} (h : jbd S st ar dp ch zn) : ∀ s, s < 8 → y_in [(2147483648, 2147483657)] (z_b (zn s)) := h.2.2.2.2.2
def jnum0 (f : Nat → Int32) (n j : Nat) : Nat := if j < n then (f j).toInt.toNat else 0
theorem jnum0_ok {f : Nat → Int32} {n j hi : Nat} (hj : j < n) (h : y_in [(2147483648, 2147483648 + hi)] (z_b (f j))) : f j = nI (jnum0 f n j) ∧ jnum0 f n j ≤ hi := by
  obtain ⟨h1, h2⟩ := d_bd h
  unfold jnum0
  rw [if_pos hj]
  refine ⟨?_, by omega⟩
  apply Int32.toInt_inj.mp
  have h3 := Int32.toInt_lt (f j)
  rw [dni_int (by omega)]
  omega
theorem jnum0_le {f : Nat → Int32} {n hi : Nat} (h : ∀ j, j < n → y_in [(2147483648, 2147483648 + hi)] (z_b (f j))) (j : Nat) : jnum0 f n j ≤ hi := by
  by_cases hj : j < n
  · exact (jnum0_ok hj (h j hj)).2
  · unfold jnum0
    rw [if_neg hj]
    exact Nat.zero_le _
/-- the timetable -/
def jXo (n : Nat) (S st ar dp ch zn : Nat → Int32) : jT := ⟨n, jnum0 S 12, jnum0 st 96, jnum0 ar 96, jnum0 dp 96, jnum0 ch 8, jnum0 zn 8⟩
theorem jXo_ok {n : Nat} (hn : n ≤ 12) {S st ar dp ch zn : Nat → Int32} (h : jbd S st ar dp ch zn) : jV (jXo n S st ar dp ch zn) S st ar dp ch zn ∧ jX (jXo n S st ar dp ch zn) :=
  ⟨⟨hn, fun r hr => jnum0_ok (hi := 8) hr (h.S r hr), fun p hp => by
      obtain ⟨a, b⟩ := jnum0_ok (hi := 7) hp (h.st p hp)
      exact ⟨a, by show jnum0 st 96 p < 8; omega⟩, fun p hp => jnum0_ok (hi := 10000) hp (h.ar p hp), fun p hp => jnum0_ok (hi := 10000) hp (h.dp p hp), fun s hs => jnum0_ok (hi := 60) hs (h.ch s hs), fun s hs => jnum0_ok (hi := 9) hs (h.zn s hs)⟩,
   ⟨hn, fun r => jnum0_le (hi := 8) h.S r, fun s => jnum0_le (hi := 9) h.zn s⟩⟩
/-- rows that are alike as far as they go tell one timetable -/
theorem jV_eq {X : jT} {S st ar dp ch zn S' st' ar' dp' ch' zn' : Nat → Int32} (h : jV X S st ar dp ch zn) (e1 : ∀ r, r < 12 → S' r = S r) (e2 : ∀ p, p < 96 → st' p = st p ∧ ar' p = ar p ∧ dp' p = dp p) (e3 : ∀ s, s < 8 → ch' s = ch s ∧ zn' s = zn s) : jV X S' st' ar' dp' ch' zn' :=
  ⟨h.n, fun r hr => by rw [e1 r hr]; exact h.S r hr, fun p hp => by rw [(e2 p hp).1]; exact h.st p hp, fun p hp => by rw [(e2 p hp).2.1]; exact h.ar p hp, fun p hp => by rw [(e2 p hp).2.2]; exact h.dp p hp, fun s hs => by rw [(e3 s hs).1]; exact h.ch s hs, fun s hs => by rw [(e3 s hs).2]; exact h.zn s hs⟩
theorem jwI (hW : y_WT (ytbL w) zcls tys tg cw) : ∀ q ∈ jI, cw[q.1]? = some (dad cw q.1, .inl (dcI cw q.1, q.2, .inl (y_row cw q.1))) ∧ ∃ t0 : Nat, tys[t0]? = some (dcI cw q.1, .int) := by
  have k : ∀ {r n : Nat} {t : yT}, ySh[r]? = some (.inr (0, n, t)) → cw[r]? = some (dad cw r, .inl (dcI cw r, n, .inl (y_row cw r))) ∧ ∃ t0 : Nat, tys[t0]? = some (dcI cw r, .int) := fun h => ⟨(d_rowN hW h).1, (d_rowN hW h).2.1⟩
  exact y_forall (k (r := 80) rfl) <| y_forall (k (r := 81) rfl) <| y_forall (k (r := 83) rfl) <| y_forall (k (r := 84) rfl) <| y_forall (k (r := 85) rfl) <| y_forall (k (r := 86) rfl) <| y_forall (k (r := 94) rfl) <| y_forall (k (r := 95) rfl) <| y_forall (k (r := 96) rfl) <| y_forall (k (r := 98) rfl) <| y_forall (k (r := 100) rfl) y_fornil
theorem jwJ (hW : y_WT (ytbL w) zcls tys tg cw) : ∀ q ∈ jJ, cw[q.1]? = some (dad cw q.1, .inl (dcI cw q.1, q.2, .inr (.inl (dLo cw q.1)))) ∧ ∃ t0 : Nat, tys[t0]? = some (dcI cw q.1, .long) := y_forall (d_rowL (r := 97) hW rfl) <| y_forall (d_rowL (r := 99) hW rfl) <| y_forall (d_rowL (r := 101) hW rfl) y_fornil
theorem kwI (hW : y_WT (ytbL w) zcls tys tg cw) : ∀ q ∈ kI, cw[q.1]? = some (dad cw q.1, .inl (dcI cw q.1, q.2, .inl (y_row cw q.1))) ∧ ∃ t0 : Nat, tys[t0]? = some (dcI cw q.1, .int) := by
  have k : ∀ {r n : Nat} {t : yT}, ySh[r]? = some (.inr (0, n, t)) → cw[r]? = some (dad cw r, .inl (dcI cw r, n, .inl (y_row cw r))) ∧ ∃ t0 : Nat, tys[t0]? = some (dcI cw r, .int) := fun h => ⟨(d_rowN hW h).1, (d_rowN hW h).2.1⟩
  exact y_forall (k (r := 194) rfl) <| y_forall (k (r := 195) rfl) <| y_forall (k (r := 197) rfl) <| y_forall (k (r := 198) rfl) <| y_forall (k (r := 199) rfl) <| y_forall (k (r := 200) rfl) <| y_forall (k (r := 201) rfl) <| y_forall (k (r := 203) rfl) <| y_forall (k (r := 204) rfl) <| y_forall (k (r := 205) rfl) y_fornil
theorem kwJ (hW : y_WT (ytbL w) zcls tys tg cw) : ∀ q ∈ kJ, cw[q.1]? = some (dad cw q.1, .inl (dcI cw q.1, q.2, .inr (.inl (dLo cw q.1)))) ∧ ∃ t0 : Nat, tys[t0]? = some (dcI cw q.1, .long) := y_forall (d_rowL (r := 202) hW rfl) <| y_forall (d_rowL (r := 206) hW rfl) y_fornil
/-- the reference's fields, out of its shape -/
theorem kMv_of (hW : y_WT (ytbL w) zcls tys tg cw) {n : Nat} (hn : y_fld cw 114 113 = nI n) : ∃ vs op, cw[114]? = some (dad cw 114, .inr (12, vs)) ∧ kMv (dad cw) n op vs := by
  obtain ⟨vs, c2, tH⟩ := d_obj (k := 114) (ci := 12) (ts := ySts 114) hW rfl
  have key : ∀ (k r : Nat) (u : yC), (ySts 114)[k]? = some (.inr (.inl [r])) → ySh[r]? = some u → vs[k]? = some (.ref (dad cw r)) := fun k r u g1 g2 => by
    obtain ⟨w, f, hw⟩ := y_TL_get tH g1
    rw [f, d_ref hW g2 rfl hw]
  obtain ⟨w0, f0, x, e0, _⟩ := y_TL_get (k := 113) (t := .inl [(2147483648, 2147483660)]) tH rfl
  have e0 : w0 = .int x := e0
  subst e0
  rw [y_fld_eq c2 f0] at hn
  subst hn
  obtain ⟨w1, f1, op, e1, _⟩ := y_TL_get (k := 121) (t := .inl [(2147483648, 2147484048)]) tH rfl
  have e1 : w1 = .int op := e1
  subst e1
  exact ⟨vs, op, c2, key 111 194 _ rfl rfl, key 112 195 _ rfl rfl, f0, key 115 197 _ rfl rfl, key 116 198 _ rfl rfl, key 117 199 _ rfl rfl, key 118 200 _ rfl rfl, key 119 201 _ rfl rfl, key 120 202 _ rfl rfl, f1, key 122 203 _ rfl rfl, key 123 204 _ rfl rfl, key 124 205 _ rfl rfl, key 125 206 _ rfl rfl⟩
end YG
/-- the tables' rows are in their places -/
def lwJ (cw : va_W) : Prop := ∃ (a : Nat) (vs : List Value), cw[93]? = some (a, .inr (1, vs)) ∧ vs[6]? = some (.ref (dad cw 98)) ∧ vs[7]? = some (.ref (dad cw 99)) ∧ vs[8]? = some (.ref (dad cw 100)) ∧ vs[9]? = some (.ref (dad cw 101))
section YH
variable {w : yWr} {tys : List (ClassId × FieldType)} {tg : List yC} {cw : va_W} {l : Launch} {D : va_G} {b : Nat → Nat}
theorem jW_of (hW : y_WT (ytbL w) zcls tys tg cw) (hJ : lwJ cw) {n : Nat} (hn : y_fld cw 79 2 = nI n) : ∃ op ho he, jW (dad cw) (dcI cw) op 98 100 (nI n) ho he (y_row cw) (dLo cw) cw := by
  obtain ⟨vs, c2, tH⟩ := d_obj (k := 93) (ci := 1) (ts := [.inr (.inl [79]), .inl [(2147483648, 2147483796)], .inr (.inl [94]), .inr (.inl [95]), .inr (.inl [96]), .inr (.inl [97]), .inr (.inl [98, 100]), .inr (.inl [99, 101]), .inr (.inl [98, 100]), .inr (.inl [99, 101])]) hW rfl
  obtain ⟨a', vs', j1, j2, j3, j4, j5⟩ := hJ
  rw [c2] at j1
  have ev : vs = vs' := by cases j1; rfl
  subst ev
  obtain ⟨v0, vs, rfl, h0, tH⟩ := y_TL_cons tH
  obtain ⟨v1, vs, rfl, h1, tH⟩ := y_TL_cons tH
  obtain ⟨v2, vs, rfl, h2, tH⟩ := y_TL_cons tH
  obtain ⟨v3, vs, rfl, h3, tH⟩ := y_TL_cons tH
  obtain ⟨v4, vs, rfl, h4, tH⟩ := y_TL_cons tH
  obtain ⟨v5, vs, rfl, h5, tH⟩ := y_TL_cons tH
  obtain ⟨v6, vs, rfl, h6, tH⟩ := y_TL_cons tH
  obtain ⟨v7, vs, rfl, h7, tH⟩ := y_TL_cons tH
  obtain ⟨v8, vs, rfl, h8, tH⟩ := y_TL_cons tH
  obtain ⟨v9, vs, rfl, h9, tH⟩ := y_TL_cons tH
  have e10 := y_TL_nil tH
  subst e10
  obtain ⟨op, e1, _⟩ := h1
  have e1 : v1 = .int op := e1
  have j2 : v6 = .ref (dad cw 98) := Option.some.inj j2
  have j3 : v7 = .ref (dad cw 99) := Option.some.inj j3
  have j4 : v8 = .ref (dad cw 100) := Option.some.inj j4
  have j5 : v9 = .ref (dad cw 101) := Option.some.inj j5
  rw [d_ref (k := 79) hW rfl rfl h0, e1, d_ref (k := 94) hW rfl rfl h2, d_ref (k := 95) hW rfl rfl h3, d_ref (k := 96) hW rfl rfl h4, d_ref (k := 97) hW rfl rfl h5, j2, j3, j4, j5] at c2
  obtain ⟨us, c3, uH⟩ := d_obj (k := 79) (ci := 6) (ts := [.inr (.inl [80]), .inr (.inl [81]), .inl [(2147483648, 2147483660)], .inr (.inl [82]), .inr (.inl [83]), .inr (.inl [84]), .inr (.inl [85]), .inr (.inl [86]), .inl [(2147483648, 2147484048)], .inl [(0, 4294967295)], .inr (.inl [87]), .inr (.inl [88]), .inr (.inl [89]), .inr (.inl [90]), .inr (.inl [91]), .inr (.inl [92])]) hW rfl
  obtain ⟨u0, us, rfl, g0, uH⟩ := y_TL_cons uH
  obtain ⟨u1, us, rfl, g1, uH⟩ := y_TL_cons uH
  obtain ⟨u2, us, rfl, g2, uH⟩ := y_TL_cons uH
  obtain ⟨u3, us, rfl, g3, uH⟩ := y_TL_cons uH
  obtain ⟨u4, us, rfl, g4, uH⟩ := y_TL_cons uH
  obtain ⟨u5, us, rfl, g5, uH⟩ := y_TL_cons uH
  obtain ⟨u6, us, rfl, g6, uH⟩ := y_TL_cons uH
  obtain ⟨u7, us, rfl, g7, uH⟩ := y_TL_cons uH
  obtain ⟨u8, us, rfl, g8, uH⟩ := y_TL_cons uH
  obtain ⟨u9, us, rfl, g9, uH⟩ := y_TL_cons uH
  obtain ⟨ua, us, rfl, ga, uH⟩ := y_TL_cons uH
  obtain ⟨ub, us, rfl, gb, uH⟩ := y_TL_cons uH
  obtain ⟨uc, us, rfl, gc, uH⟩ := y_TL_cons uH
  obtain ⟨ud, us, rfl, gd, uH⟩ := y_TL_cons uH
  obtain ⟨ue, us, rfl, ge, uH⟩ := y_TL_cons uH
  obtain ⟨uf, us, rfl, gf, uH⟩ := y_TL_cons uH
  have e16 := y_TL_nil uH
  subst e16
  obtain ⟨rn, f2, _⟩ := g2
  obtain ⟨ho, f8, _⟩ := g8
  obtain ⟨he, f9, _⟩ := g9
  have f2 : u2 = .int rn := f2
  have f8 : u8 = .int ho := f8
  have f9 : u9 = .int he := f9
  subst f2
  rw [y_fld_eq c3 rfl] at hn
  subst hn
  rw [d_ref (k := 80) hW rfl rfl g0, d_ref (k := 81) hW rfl rfl g1, d_ref (k := 82) hW rfl rfl g3, d_ref (k := 83) hW rfl rfl g4, d_ref (k := 84) hW rfl rfl g5, d_ref (k := 85) hW rfl rfl g6, d_ref (k := 86) hW rfl rfl g7, f8, f9, d_ref (k := 87) hW rfl rfl ga, d_ref (k := 88) hW rfl rfl gb, d_ref (k := 89) hW rfl rfl gc, d_ref (k := 90) hW rfl rfl gd, d_ref (k := 91) hW rfl rfl ge, d_ref (k := 92) hW rfl rfl gf] at c3
  exact ⟨op, ho, he, fun q hq => (jwI hW q hq).1, fun q hq => (jwJ hW q hq).1, y_forall c3 <| y_forall c2 y_fornil⟩
end YH
section YI
variable {tys : List (ClassId × FieldType)} {tg : List yC} {cw : va_W} {l : Launch} {D : va_G} {b : Nat → Nat}
/-- what journey answers: K its options -/
def jans (X : jT) (x y z v : Int32) (F : Nat → Nat → Nat → List jO) : Prop := (¬ jac x y z ∧ v = jrf x y) ∨ (jac x y z ∧ ∃ fr to wh K, x = nI fr ∧ y = nI to ∧ z = nI wh ∧ (fr ≤ 7 ∧ to ≤ 7 ∧ wh ≤ 10000) ∧ v = nI K.length ∧ jop (F fr wh to) K)
/-- both answer alike -/
theorem jans_eq {X : jT} (hX : jX X) {x y z v v' : Int32} (h : jans X x y z v (fun fr wh to => jcm X fr wh to 0)) (h' : jans X x y z v' (fun fr wh to => jpm X fr wh to 0)) : v = v' := by
  rcases h with ⟨h1, h2⟩ | ⟨h1, fr, to, wh, K, e1, e2, e3, e4, e5, h2⟩
  · rcases h' with ⟨_, g2⟩ | ⟨g1, _⟩
    · rw [h2, g2]
    · exact absurd g1 h1
  · rcases h' with ⟨g1, _⟩ | ⟨g1, fr', to', wh', K', f1, f2, f3, f4, f5, g2⟩
    · exact absurd h1 g1
    · have k1 : fr = fr' := dni_injb (by omega) (by omega) (e1.symm.trans f1)
      have k2 : to = to' := dni_injb (by omega) (by omega) (e2.symm.trans f2)
      have k3 : wh = wh' := dni_injb (by omega) (by omega) (e3.symm.trans f3)
      subst k1
      subst k2
      subst k3
      rw [e5, f5, jop_eq h2 g2 (fun x => jcm_mem hX fr wh to x)]
end YI
-- the options of both sides
def lwORr : List Nat := [94, 95, 96, 97, 203, 204, 205, 206]
def lwOO (w : yWr) : Bool := and (lwORr.all fun r => !(w.2.1.contains r)) (and (!(w.1.contains (93, 1))) (!(w.1.contains (114, 121))))
/-- the options of both sides are alike -/
def lwO (cw : va_W) : Prop := ∃ m : Nat, m ≤ 148 ∧ (y_fld cw 93 1 = nI m ∧ y_fld cw 114 121 = nI m) ∧ ∀ j, j < m → y_row cw 94 j = y_row cw 203 j ∧ y_row cw 95 j = y_row cw 204 j ∧ y_row cw 96 j = y_row cw 205 j ∧ (∃ q : Nat, q < 100 ∧ y_row cw 95 j = nI q) ∧ ∃ c : Nat, c < 2 ^ 60 ∧ dLo cw 97 j = nL c ∧ dLo cw 206 j = nL c
theorem lw_cellR {cw cw' : va_W} {r : Nat} (h : cw'[r]? = cw[r]?) : y_row cw' r = y_row cw r ∧ dLo cw' r = dLo cw r := by
  unfold y_row dLo
  rw [h]
  exact ⟨rfl, rfl⟩
section YO
variable {w0 : yWr} {tys : List (ClassId × FieldType)} {tg : List yC} {cw : va_W}
theorem lw_cellK {w : yWr} {cw' : va_W} (hW : y_WT (ytbL w0) zcls tys tg cw) (hs : y_same ySh.length w cw cw') {r kd n : Nat} {t : yT} (h : ySh[r]? = some (.inr (kd, n, t))) (hn : r ∉ w.2.1) : cw'[r]? = cw[r]? := by
  obtain ⟨e, g1, g2⟩ := y_cell (ρ := ([], fun _ => none, cw.map Prod.fst, tg)) hW rfl (d_ad hW h) (d_tg hW h)
  have hl : r < ySh.length := (List.getElem?_eq_some_iff.mp h).1
  match e, g1, g2 with
  | .inl x, g1, _ =>
    rw [g1]
    exact hs.2.2 r _ g1 ⟨x, rfl⟩ (fun _ => hn) (fun z => by omega)
  | .inr _, _, h => exact h.elim
theorem lw_op1 {w : yWr} {cw' : va_W} (hW : y_WT (ytbL w0) zcls tys tg cw) (hs : y_same ySh.length w cw cw') (hn : (93, 1) ∉ w.1) : y_fld cw' 93 1 = y_fld cw 93 1 := by
  obtain ⟨a, vs, x, g1, g2, _⟩ := y_fldOf (c := 93) (f := 1) (ts := ySts 93) (E := [(2147483648, 2147483796)]) hW rfl rfl
  obtain ⟨ws, g3, g4⟩ := hs.2.1 93 a _ vs g1
  have e1 := g4 1 (fun _ => hn) (fun z => absurd z (by decide +kernel))
  rw [y_fld_eq g1 g2, y_fld_eq g3 (e1.trans g2)]
theorem lw_op2 {w : yWr} {cw' : va_W} (hW : y_WT (ytbL w0) zcls tys tg cw) (hs : y_same ySh.length w cw cw') (hn : (114, 121) ∉ w.1) : y_fld cw' 114 121 = y_fld cw 114 121 := by
  obtain ⟨a, vs, x, g1, g2, _⟩ := y_fldOf (c := 114) (f := 121) (ts := ySts 114) (E := [(2147483648, 2147484048)]) hW rfl rfl
  obtain ⟨ws, g3, g4⟩ := hs.2.1 114 a _ vs g1
  have e1 := g4 121 (fun _ => hn) (fun z => absurd z (by decide +kernel))
  rw [y_fld_eq g1 g2, y_fld_eq g3 (e1.trans g2)]
theorem lwO_same {w : yWr} {cw' : va_W} (ho : lwOO w = true) (hW : y_WT (ytbL w0) zcls tys tg cw) (hs : y_same ySh.length w cw cw') (h : lwO cw) : lwO cw' := by
  obtain ⟨m, hm, ⟨f1, f2⟩, hr⟩ := h
  obtain ⟨o1, o2⟩ := z_and ho
  obtain ⟨o2, o3⟩ := z_and o2
  have hn1 : (93, 1) ∉ w.1 := fun z => by
    rw [List.contains_iff_mem.mpr z] at o2
    cases o2
  have hn2 : (114, 121) ∉ w.1 := fun z => by
    rw [List.contains_iff_mem.mpr z] at o3
    cases o3
  have hn : ∀ r ∈ lwORr, r ∉ w.2.1 := fun r hr z => by
    have := List.all_eq_true.mp o1 r hr
    rw [List.contains_iff_mem.mpr z] at this
    cases this
  have k : ∀ (r kd n : Nat) (t : yT), r ∈ lwORr → ySh[r]? = some (.inr (kd, n, t)) → y_row cw' r = y_row cw r ∧ dLo cw' r = dLo cw r := fun r kd n t h1 h2 => lw_cellR (lw_cellK hW hs h2 (hn r h1))
  refine ⟨m, hm, ⟨(lw_op1 hW hs hn1).trans f1, (lw_op2 hW hs hn2).trans f2⟩, fun j hj => ?_⟩
  rw [(k 94 _ _ _ (by decide) rfl).1, (k 203 _ _ _ (by decide) rfl).1, (k 95 _ _ _ (by decide) rfl).1, (k 204 _ _ _ (by decide) rfl).1, (k 96 _ _ _ (by decide) rfl).1, (k 205 _ _ _ (by decide) rfl).1, (k 97 _ _ _ (by decide) rfl).2, (k 206 _ _ _ (by decide) rfl).2]
  exact hr j hj
end YO
theorem lwO_clr {n0 : Nat} {cw : va_W} (h : y_facts n0 cw lwOp0) : lwO cw := by
  have k1 : y_fld cw 93 1 = nI 0 := by
    obtain ⟨_, a, ci, vs, x, y1, y2, y3⟩ := h (93, 1, [(2147483648, 2147483648)]) (List.mem_of_getElem? (i := 0) rfl)
    rw [y_fld_eq y1 y2]
    exact (z_beq x (nI 0)).mpr (by rw [y_in_pt y3]; decide)
  have k2 : y_fld cw 114 121 = nI 0 := by
    obtain ⟨_, a, ci, vs, x, y1, y2, y3⟩ := h (114, 121, [(2147483648, 2147483648)]) (List.mem_of_getElem? (i := 1) rfl)
    rw [y_fld_eq y1 y2]
    exact (z_beq x (nI 0)).mpr (by rw [y_in_pt y3]; decide)
  exact ⟨0, by omega, ⟨k1, k2⟩, fun j hj => absurd hj (Nat.not_lt_zero _)⟩
/-- what journey leaves of the options, in the rows b0 to b3 and the counter f of o -/
def jEnd (x y z : Int32) (F : Nat → Nat → Nat → List jO) (o f b0 b1 b2 b3 : Nat) (cw cw' : va_W) : Prop :=
  (¬ jac x y z ∧ y_fld cw' o f = y_fld cw o f ∧ ∀ j, j < 148 → y_row cw' b0 j = y_row cw b0 j ∧ y_row cw' b1 j = y_row cw b1 j ∧ y_row cw' b2 j = y_row cw b2 j ∧ dLo cw' b3 j = dLo cw b3 j) ∨
  (jac x y z ∧ ∃ fr to wh K, x = nI fr ∧ y = nI to ∧ z = nI wh ∧ (fr ≤ 7 ∧ to ≤ 7 ∧ wh ≤ 10000) ∧ jop (F fr wh to) K ∧ K.length ≤ 148 ∧ y_fld cw' o f = nI K.length ∧ ∀ k w, K[k]? = some w → y_row cw' b0 k = nI w.a ∧ y_row cw' b1 k = nI w.m ∧ y_row cw' b2 k = nI w.f ∧ dLo cw' b3 k = nL w.c ∧ w.m < 100 ∧ w.c < 2 ^ 60)
/-- kept, of one side: the counter and the rows -/
def jKp (o f b0 b1 b2 b3 : Nat) (cw cw' : va_W) : Prop := y_fld cw' o f = y_fld cw o f ∧ y_row cw' b0 = y_row cw b0 ∧ y_row cw' b1 = y_row cw b1 ∧ y_row cw' b2 = y_row cw b2 ∧ dLo cw' b3 = dLo cw b3
theorem lwO_jou {X : jT} (hX : jX X) {x y z : Int32} {cw cw1 cw2 : va_W} (hO : lwO cw) (hE1 : jEnd x y z (fun fr wh to => jcm X fr wh to 0) 93 1 94 95 96 97 cw cw1) (hE2 : jEnd x y z (fun fr wh to => jpm X fr wh to 0) 114 121 203 204 205 206 cw1 cw2) (h1 : jKp 93 1 94 95 96 97 cw1 cw2) (h2 : jKp 114 121 203 204 205 206 cw cw1) : lwO cw2 := by
  obtain ⟨p0, p1, p2, p3, p4⟩ := h1
  obtain ⟨q0, q1, q2, q3, q4⟩ := h2
  rcases hE1 with ⟨n1, f1, r1⟩ | ⟨a1, fr, to, wh, K, e1, e2, e3, e4, h1, hl, f1, r1⟩
  · rcases hE2 with ⟨_, f2, r2⟩ | ⟨a2, _⟩
    · obtain ⟨m, hm, ⟨o1, o2⟩, hr⟩ := hO
      refine ⟨m, hm, ⟨by rw [p0, f1]; exact o1, by rw [f2, q0]; exact o2⟩, fun j hj => ?_⟩
      obtain ⟨s1, s2, s3, s4⟩ := r1 j (by omega)
      obtain ⟨t1, t2, t3, t4⟩ := r2 j (by omega)
      rw [p1, p2, p3, p4, s1, s2, s3, s4, t1, t2, t3, t4, q1, q2, q3, q4]
      exact hr j hj
    · exact absurd a2 n1
  · rcases hE2 with ⟨n2, _⟩ | ⟨a2, fr', to', wh', K', g1, g2, g3, g4, h2, hl', f2, r2⟩
    · exact absurd a1 n2
    · have k1 : fr = fr' := dni_injb (by omega) (by omega) (e1.symm.trans g1)
      have k2 : to = to' := dni_injb (by omega) (by omega) (e2.symm.trans g2)
      have k3 : wh = wh' := dni_injb (by omega) (by omega) (e3.symm.trans g3)
      subst k1
      subst k2
      subst k3
      have eK : K = K' := jop_eq h1 h2 (fun x => jcm_mem hX fr wh to x)
      subst eK
      refine ⟨K.length, hl, ⟨by rw [p0, f1], f2⟩, fun j hj => ?_⟩
      have hk : K[j]? = some K[j] := List.getElem?_eq_getElem hj
      obtain ⟨s1, s2, s3, s4, s5, s6⟩ := r1 j _ hk
      obtain ⟨t1, t2, t3, t4, _, _⟩ := r2 j _ hk
      rw [p1, p2, p3, p4, s1, s2, s3, s4, t1, t2, t3, t4]
      exact ⟨rfl, rfl, rfl, ⟨_, s5, rfl⟩, _, s6, rfl, rfl⟩
section YP
variable {cw : va_W} {D : va_G}
/-- one heap, one row -/
theorem d_lkN {cw2 : va_W} {H : Heap} {a r n : Nat} {cA cB : ClassId} {f g : Nat → Int32} (h1 : va_P D zcls cw H) (h2 : va_P D zcls cw2 H) (e1 : cw[r]? = some (a, .inl (cA, n, .inl f))) (e2 : cw2[r]? = some (a, .inl (cB, n, .inl g))) : ∀ j, j < n → f j = g j := by
  intro j hj
  have q1 : H[a]? = some (arrV cA n (fun j => .int (f j))) := h1 r _ e1
  have q2 : H[a]? = some (arrV cB n (fun j => .int (g j))) := h2 r _ e2
  rw [q1] at q2
  have q3 := congrArg (fun c : Cell => c.slots[j]?) (Option.some.inj q2)
  rw [arrV_read _ _ hj, arrV_read _ _ hj] at q3
  exact Value.int.inj (Option.some.inj q3)
theorem d_lkL {cw2 : va_W} {H : Heap} {a r n : Nat} {cA cB : ClassId} {f g : Nat → Int64} (h1 : va_P D zcls cw H) (h2 : va_P D zcls cw2 H) (e1 : cw[r]? = some (a, .inl (cA, n, .inr (.inl f)))) (e2 : cw2[r]? = some (a, .inl (cB, n, .inr (.inl g)))) : ∀ j, j < n → f j = g j := by
  intro j hj
  have q1 : H[a]? = some (arrV cA n (fun j => .long (f j))) := h1 r _ e1
  have q2 : H[a]? = some (arrV cB n (fun j => .long (g j))) := h2 r _ e2
  rw [q1] at q2
  have q3 := congrArg (fun c : Cell => c.slots[j]?) (Option.some.inj q2)
  rw [arrV_read _ _ hj, arrV_read _ _ hj] at q3
  exact Value.long.inj (Option.some.inj q3)
end YP
theorem jop_len {X : jT} (hX : jX X) {fr wh to : Nat} {F K : List jO} (h : jop F K) (e : ∀ x, x ∈ F → x ∈ jpm X fr wh to 0) : K.length ≤ 148 := jnd_len (fun x hx => (h.1 x).mp hx) h.2 (fun x hx => (jcm_fm hX fr wh to x (e x hx)).1)
section YJ
variable {tys : List (ClassId × FieldType)} {tg : List yC} {cw : va_W} {l : Launch} {D : va_G} {b : Nat → Nat}
theorem d_n12 {x : Int32} (h : y_in [(2147483648, 2147483660)] (z_b x)) : ∃ n, n ≤ 12 ∧ x = nI n := by
  obtain ⟨h1, h2⟩ := d_bd (hi := 12) h
  refine ⟨x.toInt.toNat, by omega, ?_⟩
  apply Int32.toInt_inj.mp
  rw [dni_int (by omega)]
  omega
/-- journey of the class -/
theorem lwJou1 (hW : y_WT (ytbL ywLw) zcls tys tg cw) (hJ : lwJ cw) (hb : jbd (y_row cw 83) (y_row cw 84) (y_row cw 85) (y_row cw 86) (y_row cw 80) (y_row cw 81)) {aX : Nat} (h0 : (cw.map Prod.fst)[0]? = some aX) (sz : Nat) (x y z : Int32) : ∃ n, n ≤ 12 ∧ y_fld cw 79 2 = nI n ∧ Met l (y_y yc145.1) (y_ws ztb yc145.1) (y_rm yc145.1) (y_Pc znw b zcls D cw tys sz [.ref aX, .int x, .int y, .int z]) (y_Q zcls D (fun cw' tys' rv => y_XC zcls (fun cw => y_kc yc145.2.2.2.2 = true → K3 cw) (ytbL ywLw) yc145 [] cw tg cw' tys' rv ∧ lwJ cw' ∧ jEnd x y z (fun fr wh to => jcm (jXo n (y_row cw 83) (y_row cw 84) (y_row cw 85) (y_row cw 86) (y_row cw 80) (y_row cw 81)) fr wh to 0) 93 1 94 95 96 97 cw cw' ∧ ∃ v, rv = some (.int v) ∧ jans (jXo n (y_row cw 83) (y_row cw 84) (y_row cw 85) (y_row cw 86) (y_row cw 80) (y_row cw 81)) x y z v (fun fr wh to => jcm (jXo n (y_row cw 83) (y_row cw 84) (y_row cw 85) (y_row cw 86) (y_row cw 80) (y_row cw 81)) fr wh to 0)) cw sz) (y_rm yc145.1).cells (y_rm yc145.1).slots (va_A cw sz) := by
  obtain ⟨a, vs, rn, g1, g2, g3⟩ := y_fldOf (c := 79) (f := 2) (ts := ySts 79) (E := [(2147483648, 2147483660)]) hW rfl rfl
  obtain ⟨n, hn, rfl⟩ := d_n12 g3
  obtain ⟨hV, hX⟩ := jXo_ok hn hb
  obtain ⟨op, ho, he, hc⟩ := jW_of hW hJ (y_fld_eq g1 g2)
  obtain ⟨vs0, c0, t0⟩ := d_obj (k := 0) (ci := 11) (ts := ySts 0) hW rfl
  obtain ⟨w7, f7, hw7⟩ := y_TL_get (k := 7) (t := .inr (.inl [93])) t0 rfl
  have e7 := d_ref (k := 93) hW rfl rfl hw7
  subst e7
  have ea : aX = dad cw 0 := by
    rw [d_ad (k := 0) hW rfl] at h0
    exact (Option.some.inj h0).symm
  subst ea
  refine ⟨n, hn, y_fld_eq g1 g2, y_Met_post (d_both (lwC 145 yc145 rfl (by decide) (by decide +kernel) b cw tys tg sz [.ref (dad cw 0), .int x, .int y, .int z] [] (Nat.le_of_ble_eq_true rfl) ⟨y_forall ⟨.ref (dad cw 0), rfl, 0, List.mem_singleton.mpr rfl, dad cw 0, h0, rfl⟩ <| y_forall ⟨.int x, rfl, x, rfl, y_in_top _⟩ <| y_forall ⟨.int y, rfl, y, rfl, y_in_top _⟩ <| y_forall ⟨.int z, rfl, z, rfl, y_in_top _⟩ y_fornil, fun q hq => (by cases hq), trivial⟩ trivial hW (fun z => absurd z (by decide +kernel))) (jM_jou (X := jXo n (y_row cw 83) (y_row cw 84) (y_row cw 85) (y_row cw 86) (y_row cw 80) (y_row cw 81)) hV hX ⟨fun q hq => (jwI hW q hq).2, fun q hq => (jwJ hW q hq).2⟩ hc c0 f7 x y z)) ?_⟩
  rintro a0 st oc t ⟨⟨cw', tys', rv, q1, q2, q3, q4, q5, cw2, tys2, H, ⟨p1, p2⟩, w1, w2⟩, hF⟩
  refine ⟨⟨cw', tys', rv, q1, q2, q3, q4, q5, ?_, ?_, ?_⟩, hF⟩
  · obtain ⟨tg', oo, k1, k2, k3, k4, k5, k6, k7, k8⟩ := q5
    have ead : ∀ {u : yC} (r : Nat), ySh[r]? = some u → dad cw' r = dad cw r := fun r hr => by
      have h1 := k6.1 r _ (d_ad hW hr)
      rw [d_ad k7 hr] at h1
      exact Option.some.inj h1
    obtain ⟨vs', c', tH⟩ := d_obj (k := 93) (ci := 1) (ts := ySts 93) k7 rfl
    obtain ⟨s6, f6, _⟩ := y_TL_get (k := 6) (t := .inr (.inl [98, 100])) tH rfl
    obtain ⟨s7, f7', _⟩ := y_TL_get (k := 7) (t := .inr (.inl [99, 101])) tH rfl
    obtain ⟨s8, f8, _⟩ := y_TL_get (k := 8) (t := .inr (.inl [98, 100])) tH rfl
    obtain ⟨s9, f9, _⟩ := y_TL_get (k := 9) (t := .inr (.inl [99, 101])) tH rfl
    have hob : ∃ op', cw2[93]? = some (dad cw 93, .inr (jOb (dad cw) op' 98 100 (nI n) ho he 93)) := by
      rcases p2 with ⟨_, _, e⟩ | ⟨_, _, _, _, _, _, _, _, K, V', L', _, c2, _⟩
      · rw [e]
        exact ⟨op, hc.hO 93 (by decide)⟩
      · exact ⟨_, c2.hO 93 (by decide)⟩
    obtain ⟨op', hob⟩ := hob
    rw [ead 93 rfl] at c'
    refine ⟨dad cw 93, vs', c', ?_, ?_, ?_, ?_⟩
    · rw [f6, d_lkf w1 w2 (ci := 1) rfl (f := 6) (by decide) c' hob f6 rfl, ead 98 rfl]
    · rw [f7', d_lkf w1 w2 (ci := 1) rfl (f := 7) (by decide) c' hob f7' rfl, ead 99 rfl]
    · rw [f8, d_lkf w1 w2 (ci := 1) rfl (f := 8) (by decide) c' hob f8 rfl, ead 100 rfl]
    · rw [f9, d_lkf w1 w2 (ci := 1) rfl (f := 9) (by decide) c' hob f9 rfl, ead 101 rfl]
  · obtain ⟨tg', oo, k1, k2, k3, k4, k5, k6, k7, k8⟩ := q5
    have ead : ∀ {u : yC} (r : Nat), ySh[r]? = some u → dad cw' r = dad cw r := fun r hr => by
      have h1 := k6.1 r _ (d_ad hW hr)
      rw [d_ad k7 hr] at h1
      exact Option.some.inj h1
    have rN : ∀ (r n : Nat) (t : yT), ySh[r]? = some (.inr (0, n, t)) → cw'[r]? = some (dad cw r, .inl (dcI cw' r, n, .inl (y_row cw' r))) := fun r n t h => by
      have h1 := (d_rowN k7 h).1
      rw [ead r h] at h1
      exact h1
    have rL : ∀ (r n : Nat) (t : yT), ySh[r]? = some (.inr (3, n, t)) → cw'[r]? = some (dad cw r, .inl (dcI cw' r, n, .inr (.inl (dLo cw' r)))) := fun r n t h => by
      have h1 := (d_rowL k7 h).1
      rw [ead r h] at h1
      exact h1
    obtain ⟨a', vs1, x', g1, g2, _⟩ := y_fldOf (c := 93) (f := 1) (ts := ySts 93) (E := [(2147483648, 2147483796)]) k7 rfl rfl
    have ea' : a' = dad cw 93 := by
      have h1 := d_ad (k := 93) k7 rfl
      rw [List.getElem?_map, g1, ead 93 rfl] at h1
      exact Option.some.inj h1
    subst ea'
    rcases p2 with ⟨h1, h2, e⟩ | ⟨h1, fr, to, wh, e1, e2, e3, e4, K, V', L', h2, c3, hro, h3⟩
    · obtain ⟨av, vv, xv, u1, u2, _⟩ := y_fldOf (c := 93) (f := 1) (ts := ySts 93) (E := [(2147483648, 2147483796)]) hW rfl rfl
      have eav : av = dad cw 93 := by
        have h1 := d_ad (k := 93) hW rfl
        rw [List.getElem?_map, u1] at h1
        exact Option.some.inj h1
      subst eav
      rw [e] at w2
      refine Or.inl ⟨h1, ?_, fun j hj => ⟨?_, ?_, ?_, ?_⟩⟩
      · rw [y_fld_eq g1 g2, y_fld_eq u1 u2]
        have := d_lkf w1 w2 (ci := 1) rfl (f := 1) (by decide) g1 u1 g2 u2
        cases this
        rfl
      · exact d_lkN w1 w2 (rN 94 148 _ rfl) (d_rowN (r := 94) hW rfl).1 j (by omega)
      · exact d_lkN w1 w2 (rN 95 148 _ rfl) (d_rowN (r := 95) hW rfl).1 j (by omega)
      · exact d_lkN w1 w2 (rN 96 148 _ rfl) (d_rowN (r := 96) hW rfl).1 j (by omega)
      · exact d_lkL w1 w2 (rL 97 148 _ rfl) (d_rowL (r := 97) hW rfl).1 j (by omega)
    · have hl := jop_len hX (fr := fr) (wh := wh) (to := to) h3 (fun x hx => (jcm_mem hX fr wh to x).mp hx)
      have hf : y_fld cw' 93 1 = nI K.length := by
        rw [y_fld_eq g1 g2]
        have := d_lkf w1 w2 (ci := 1) rfl (f := 1) (by decide) g1 (c3.hO 93 (by decide)) g2 rfl
        cases this
        rfl
      refine Or.inr ⟨h1, fr, to, wh, K, e1, e2, e3, e4, h3, hl, hf, fun k w hk => ?_⟩
      have hkl := (List.getElem?_eq_some_iff.mp hk).1
      obtain ⟨⟨b1, b2, b3, b4⟩, _, b6, _, b5⟩ := hro k w hk
      refine ⟨?_, ?_, ?_, ?_, b6, b5⟩
      · rw [d_lkN w1 w2 (rN 94 148 _ rfl) (c3.hI (94, 148) (by decide)) k (by omega)]
        exact b1
      · rw [d_lkN w1 w2 (rN 95 148 _ rfl) (c3.hI (95, 148) (by decide)) k (by omega)]
        exact b2
      · rw [d_lkN w1 w2 (rN 96 148 _ rfl) (c3.hI (96, 148) (by decide)) k (by omega)]
        exact b3
      · rw [d_lkL w1 w2 (rL 97 148 _ rfl) (c3.hJ (97, 148) (by decide)) k (by omega)]
        exact b4
  · rcases p2 with ⟨h1, h2, _⟩ | ⟨h1, fr, to, wh, e1, e2, e3, e4, K, V', L', h2, _, _, h3⟩
    · exact ⟨_, h2, Or.inl ⟨h1, rfl⟩⟩
    · exact ⟨_, h2, Or.inr ⟨h1, fr, to, wh, K, e1, e2, e3, e4, rfl, h3⟩⟩
end YJ
section YK
variable {tys : List (ClassId × FieldType)} {tg : List yC} {cw : va_W} {l : Launch} {D : va_G} {b : Nat → Nat}
/-- journey of the reference -/
theorem lwJou2 (hW : y_WT (ytbL ywLw) zcls tys tg cw) {X : jT} (hV : kVc X (y_row cw)) (hX : jX X) (hn : y_fld cw 114 113 = nI X.n) {aM : Nat} (h0 : (cw.map Prod.fst)[114]? = some aM) (sz : Nat) (x y z : Int32) : Met l (y_y yc245.1) (y_ws ztb yc245.1) (y_rm yc245.1) (y_Pc znw b zcls D cw tys sz [.ref aM, .int x, .int y, .int z]) (y_Q zcls D (fun cw' tys' rv => y_XC zcls (fun cw => y_kc yc245.2.2.2.2 = true → K3 cw) (ytbL ywLw) yc245 [] cw tg cw' tys' rv ∧ jEnd x y z (fun fr wh to => jpm X fr wh to 0) 114 121 203 204 205 206 cw cw' ∧ ∃ v, rv = some (.int v) ∧ jans X x y z v (fun fr wh to => jpm X fr wh to 0)) cw sz) (y_rm yc245.1).cells (y_rm yc245.1).slots (va_A cw sz) := by
  obtain ⟨vs, op, c2, hv⟩ := kMv_of hW hn
  have ea : aM = dad cw 114 := by
    rw [d_ad (k := 114) hW rfl] at h0
    exact (Option.some.inj h0).symm
  subst ea
  refine y_Met_post (d_both (lwC 245 yc245 rfl (by decide) (by decide +kernel) b cw tys tg sz [.ref (dad cw 114), .int x, .int y, .int z] [] (Nat.le_of_ble_eq_true rfl) ⟨y_forall ⟨.ref (dad cw 114), rfl, 114, List.mem_singleton.mpr rfl, dad cw 114, h0, rfl⟩ <| y_forall ⟨.int x, rfl, x, rfl, y_in_top _⟩ <| y_forall ⟨.int y, rfl, y, rfl, y_in_top _⟩ <| y_forall ⟨.int z, rfl, z, rfl, y_in_top _⟩ y_fornil, fun q hq => (by cases hq), trivial⟩ trivial hW (fun z => absurd z (by decide +kernel))) (kM_jou (cI := dcI cw) (L := dLo cw) hv hV hX ⟨fun q hq => (kwI hW q hq).2, fun q hq => (kwJ hW q hq).2⟩ ⟨fun q hq => (kwI hW q hq).1, fun q hq => (kwJ hW q hq).1, y_forall c2 y_fornil⟩ x y z)) ?_
  rintro a0 st oc t ⟨⟨cw', tys', rv, q1, q2, q3, q4, q5, cw2, tys2, H, ⟨p1, p2⟩, w1, w2⟩, hF⟩
  refine ⟨⟨cw', tys', rv, q1, q2, q3, q4, q5, ?_, ?_⟩, hF⟩
  · obtain ⟨tg', oo, k1, k2, k3, k4, k5, k6, k7, k8⟩ := q5
    have ead : ∀ {u : yC} (r : Nat), ySh[r]? = some u → dad cw' r = dad cw r := fun r hr => by
      have h1 := k6.1 r _ (d_ad hW hr)
      rw [d_ad k7 hr] at h1
      exact Option.some.inj h1
    have rN : ∀ (r n : Nat) (t : yT), ySh[r]? = some (.inr (0, n, t)) → cw'[r]? = some (dad cw r, .inl (dcI cw' r, n, .inl (y_row cw' r))) := fun r n t h => by
      have h1 := (d_rowN k7 h).1
      rw [ead r h] at h1
      exact h1
    have rL : ∀ (r n : Nat) (t : yT), ySh[r]? = some (.inr (3, n, t)) → cw'[r]? = some (dad cw r, .inl (dcI cw' r, n, .inr (.inl (dLo cw' r)))) := fun r n t h => by
      have h1 := (d_rowL k7 h).1
      rw [ead r h] at h1
      exact h1
    obtain ⟨a', vs1, x', g1, g2, _⟩ := y_fldOf (c := 114) (f := 121) (ts := ySts 114) (E := [(2147483648, 2147484048)]) k7 rfl rfl
    have ea' : a' = dad cw 114 := by
      have h1 := d_ad (k := 114) k7 rfl
      rw [List.getElem?_map, g1, ead 114 rfl] at h1
      exact Option.some.inj h1
    subst ea'
    rcases p2 with ⟨h1, h2, e⟩ | ⟨h1, fr, to, wh, e1, e2, e3, e4, K, V', L', vs', h2, c3, hvk, hro, h3⟩
    · obtain ⟨av, vv, xv, u1, u2, _⟩ := y_fldOf (c := 114) (f := 121) (ts := ySts 114) (E := [(2147483648, 2147484048)]) hW rfl rfl
      have eav : av = dad cw 114 := by
        have h1 := d_ad (k := 114) hW rfl
        rw [List.getElem?_map, u1] at h1
        exact Option.some.inj h1
      subst eav
      rw [e] at w2
      refine Or.inl ⟨h1, ?_, fun j hj => ⟨?_, ?_, ?_, ?_⟩⟩
      · rw [y_fld_eq g1 g2, y_fld_eq u1 u2]
        have := d_lkf w1 w2 (ci := 12) rfl (f := 121) (by decide) g1 u1 g2 u2
        cases this
        rfl
      · exact d_lkN w1 w2 (rN 203 400 _ rfl) (d_rowN (r := 203) hW rfl).1 j (by omega)
      · exact d_lkN w1 w2 (rN 204 400 _ rfl) (d_rowN (r := 204) hW rfl).1 j (by omega)
      · exact d_lkN w1 w2 (rN 205 400 _ rfl) (d_rowN (r := 205) hW rfl).1 j (by omega)
      · exact d_lkL w1 w2 (rL 206 400 _ rfl) (d_rowL (r := 206) hW rfl).1 j (by omega)
    · have hl := jop_len hX (fr := fr) (wh := wh) (to := to) h3 (fun x hx => hx)
      have hf : y_fld cw' 114 121 = nI K.length := by
        rw [y_fld_eq g1 g2]
        have := d_lkf w1 w2 (ci := 12) rfl (f := 121) (by decide) g1 (c3.hO 114 (by decide)) g2 hvk
        cases this
        rfl
      refine Or.inr ⟨h1, fr, to, wh, K, e1, e2, e3, e4, h3, hl, hf, fun k w hk => ?_⟩
      have hkl := (List.getElem?_eq_some_iff.mp hk).1
      obtain ⟨⟨b1, b2, b3, b4⟩, _, b6, _, b5⟩ := hro k w hk
      refine ⟨?_, ?_, ?_, ?_, b6, b5⟩
      · rw [d_lkN w1 w2 (rN 203 400 _ rfl) (c3.hI (203, 400) (by decide)) k (by omega)]
        exact b1
      · rw [d_lkN w1 w2 (rN 204 400 _ rfl) (c3.hI (204, 400) (by decide)) k (by omega)]
        exact b2
      · rw [d_lkN w1 w2 (rN 205 400 _ rfl) (c3.hI (205, 400) (by decide)) k (by omega)]
        exact b3
      · rw [d_lkL w1 w2 (rL 206 400 _ rfl) (c3.hJ (206, 400) (by decide)) k (by omega)]
        exact b4
  · rcases p2 with ⟨h1, h2, _⟩ | ⟨h1, fr, to, wh, e1, e2, e3, e4, K, V', L', vs', h2, _, _, _, h3⟩
    · exact ⟨_, h2, Or.inl ⟨h1, rfl⟩⟩
    · exact ⟨_, h2, Or.inr ⟨h1, fr, to, wh, K, e1, e2, e3, e4, rfl, h3⟩⟩
end YK
def lwOJ (w : yWr) : Bool := [6, 7, 8, 9].all fun f => !(w.1.contains (93, f))
section YL
variable {w0 : yWr} {tys : List (ClassId × FieldType)} {tg : List yC} {cw : va_W}
theorem lwJ_same {w : yWr} {cw' : va_W} (ho : lwOJ w = true) (hW : y_WT (ytbL w0) zcls tys tg cw) (hs : y_same ySh.length w cw cw') (h : lwJ cw) : lwJ cw' := by
  obtain ⟨a, vs, c, f6, f7, f8, f9⟩ := h
  obtain ⟨vs', g3, g4⟩ := hs.2.1 93 a _ vs c
  have hn : ∀ f ∈ [6, 7, 8, 9], (93, f) ∉ w.1 := fun f hf z => by
    have := List.all_eq_true.mp ho f hf
    rw [List.contains_iff_mem.mpr z] at this
    cases this
  have ead : ∀ {u : yC} (r : Nat), ySh[r]? = some u → dad cw' r = dad cw r := fun r hr => by
    have h1 := hs.1 r _ (d_ad hW hr)
    unfold dad at h1 ⊢
    rw [h1]
    rfl
  have e : ∀ (f : Nat), f ∈ [6, 7, 8, 9] → vs'[f]? = vs[f]? := fun f hf => g4 f (fun _ => hn f hf) (fun z => absurd z (by decide +kernel))
  refine ⟨a, vs', g3, ?_, ?_, ?_, ?_⟩
  · rw [ead 98 rfl, e 6 (by decide)]
    exact f6
  · rw [ead 99 rfl, e 7 (by decide)]
    exact f7
  · rw [ead 100 rfl, e 8 (by decide)]
    exact f8
  · rw [ead 101 rfl, e 9 (by decide)]
    exact f9
end YL
