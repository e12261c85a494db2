-- more pieces
section YP
variable {cls : List vw_C} {K : va_W → Prop} {tb : yTb} {b : Nat → Nat}
noncomputable def y_one1 (st : List yV) (f : yV → Bool) : Bool := match st with
  | x :: _ => cond (y_isI x) (f x) false
  | _ => false
theorem y_one1_ok {ρ : yRo} {st : List yV} {cst : List Value} {f : yV → Bool} (h : y_one1 st f = true) (hSR : y_SR (y_g tb ρ b) st cst) : ∃ x x1, y_gi (y_sg ρ) x x1 ∧ f x = true := by
  match st, h, hSR with
  | x :: t, h, hSR =>
    obtain ⟨hI, h⟩ := z_cond (show cond (y_isI x) (f x) false = true from h)
    obtain ⟨v0, ct0, rfl, g0, _⟩ := y_SR_cons hSR
    obtain ⟨x0, rfl, i0⟩ := y_isI_ok hI g0
    exact ⟨x, x0, i0, h⟩
noncomputable def y_sg1 (v : yV) (f : Nat → Bool) : Bool := match v with
  | .inr (.inl i) => f i
  | _ => false
theorem y_sg1_ok {v : yV} {f : Nat → Bool} (h : y_sg1 v f = true) : ∃ i, v = y_sy i ∧ f i = true := by
  match v, h with
  | .inr (.inl i), h => exact ⟨i, rfl, h⟩
theorem y_ring2 (a m o k : Int32) : a + m + o - k = a + (m - k + o) := by grind
theorem y_ring3 (B o A : Int32) : A - B = o - (B + o - A) := by grind
-- a place that is a row's first, a number of the row, and less another
noncomputable def y_isum : yPf := fun _ st n env h k => y_one1 st fun j => y_sg1 j fun i => y_frs 1 j h.1 fun c kk => y_nrm h.1 64 c 0 fun cc oc => y_frs 0 cc h.1 fun a m => y_wlk h.1 env kk (fun D => z_frc (z_bu oc) fun bo => y_dop 0 D [(bo, bo)] fun E => z_frc (n + 1) fun n' => y_pr ((0, a, y_sy n, i) :: h.1) ((n, E) :: env) fun env => k n' env ((0, a, y_sy n, i) :: h.1, h.2)) 16 m [(2147483648, 2147483648)]
theorem y_isum_ok : y_H1 cls K y_isum tb b := by
  intro lo st n env h k ρ cw tys cst lv hK had hW he hr hfx hax hnl hps hps0 hLR hSR hev
  obtain ⟨j, xj, ij, hv1⟩ := y_one1_ok hev hSR
  obtain ⟨i, rfl, hv2⟩ := y_sg1_ok hv1
  obtain ⟨c, kk, xc, xk, ic, ik, ej, hv3⟩ := y_frs_ok hv2 hr ij
  obtain ⟨cc, oc, xcc, icc, ecc, hv4⟩ := y_nrm_ok hr 64 hv3 ic
  obtain ⟨a, m, xa, xm, ia, im, ea, hv5⟩ := y_frs_ok hv4 hr icc
  obtain ⟨D, d1, hv6⟩ := y_wlk_ok hr he ik 16 (z := 0) hv5 im (y_in_iv (by decide) (by decide))
  rw [z_frc_eq] at hv6
  obtain ⟨E, d2, hv7⟩ := y_dop_ok (op := 0) (y := nI oc) hv6 d1 (y_in_z rfl)
  rw [z_frc_eq] at hv7
  have d2 : y_in E (z_b (0 + (xm - xk) + nI oc)) := d2
  have key : xj = xa + (0 + (xm - xk) + nI oc) := by
    have ej : xj = xc - xk := ej
    have ea : xcc = xa + xm := ea
    rw [y_nI0, Int32.add_zero] at ecc
    rw [ej, ecc, ea, Int32.zero_add]
    exact y_ring2 _ _ _ _
  obtain ⟨ρ', u1, u2, u3, u4, u5, u6, u7⟩ := y_new hnl hps hps0 (0 + (xm - xk) + nI oc) none (fun p q => by cases q)
  refine y_prK (h := ((0, a, y_sy n, i) :: h.1, h.2)) ⟨u1, u2, u3, u4, u5⟩ (y_erel_cons (y_erel_mono u1.1 he) u6 d2) ?_ (y_fxr_mono u1 hfx) (y_axr_mono u1 hax) (y_KL_mono u1 hK) hv7
  intro p hp
  rcases List.mem_cons.mp hp with rfl | hp
  · exact ⟨xa, _, y_gi_mono u1.1 ia, u6, by
      have := u1.1 _ _ (show (y_sg ρ)[i]? = some xj from ij)
      rw [key] at this
      exact this⟩
  · exact y_rrel_mono u1.1 hr p hp
-- A less B, where something is B and a number, and its difference from A is a sign
noncomputable def y_blw (A B : yPl) : yPf := fun lo _ n env h k => y_plv [] env lo h.2.1 h.2.2.1 A fun a => y_plv [] env lo h.2.1 h.2.2.1 B fun c => y_fl (fun q r => cond (and (Nat.beq q.1 1) (y_eqv q.2.2.1 a)) (y_nrm h.1 64 q.2.1 0 fun x o => cond (y_eqv x c) (y_lk env q.2.2.2 fun Dd => z_frc (z_bu o) fun bo => y_dop 1 [(bo, bo)] Dd fun D => z_frc (n + 1) fun n' => k n' ((n, D) :: env) ((1, a, c, n) :: h.1, h.2)) r) r) false h.1
theorem y_blw_ok (A B : yPl) : y_H1 cls K (y_blw A B) tb b := by
  intro lo st n env h k ρ cw tys cst lv hK had hW he hr hfx hax hnl hps hps0 hLR hSR hev
  obtain ⟨a, xa, _, ia, hv1⟩ := y_plv_ok (gs := []) (show y_plv [] env lo h.2.1 h.2.2.1 A _ = true from hev) hLR (fun i v q => by simp at q) he hfx hax
  obtain ⟨c, xc, _, ic, hv2⟩ := y_plv_ok (gs := []) hv1 hLR (fun i v q => by simp at q) he hfx hax
  clear hev hv1
  have gen : ∀ l : List yR, (∀ q ∈ l, q ∈ h.1) → y_fl (fun q r => cond (and (Nat.beq q.1 1) (y_eqv q.2.2.1 a)) (y_nrm h.1 64 q.2.1 0 fun x o => cond (y_eqv x c) (y_lk env q.2.2.2 fun Dd => z_frc (z_bu o) fun bo => y_dop 1 [(bo, bo)] Dd fun D => z_frc (n + 1) fun n' => k n' ((n, D) :: env) ((1, a, c, n) :: h.1, h.2)) r) r) false l = true → ∃ D, y_in D (z_b (xa - xc)) ∧ k (n + 1) ((n, D) :: env) ((1, a, c, n) :: h.1, h.2) = true := by
    intro l
    induction l with
    | nil => intro _ z; cases z
    | cons q l ih =>
      intro hl z
      have ih := ih (fun p hp => hl p (List.mem_cons_of_mem _ hp))
      rcases y_bool (show cond (and (Nat.beq q.1 1) (y_eqv q.2.2.1 a)) (y_nrm h.1 64 q.2.1 0 fun x o => cond (y_eqv x c) (y_lk env q.2.2.2 fun Dd => z_frc (z_bu o) fun bo => y_dop 1 [(bo, bo)] Dd fun D => z_frc (n + 1) fun n' => k n' ((n, D) :: env) ((1, a, c, n) :: h.1, h.2)) _) _ = true from z) with ⟨hc, z1⟩ | ⟨_, z1⟩
      · obtain ⟨c1, c2⟩ := z_and hc
        obtain ⟨x, y, r1, r2, r3⟩ := hr q (hl q List.mem_cons_self)
        rw [Nat.eq_of_beq_eq_true c1] at r3
        rw [y_eqv_ok c2] at r2
        have e2 := y_gi_fun r2 ia
        obtain ⟨v', o, x', i', e', z2⟩ := y_nrm_ok hr 64 z1 r1
        rcases y_bool z2 with ⟨hc2, z3⟩ | ⟨_, z3⟩
        · rw [y_eqv_ok hc2] at i'
          have e3 := y_gi_fun i' ic
          obtain ⟨Dd, d1, z4⟩ := y_lk_ok z3 he r3
          rw [z_frc_eq] at z4
          obtain ⟨D, d2, z5⟩ := y_dop_ok (op := 1) (x := nI o) z4 (y_in_z rfl) d1
          rw [z_frc_eq] at z5
          refine ⟨D, ?_, z5⟩
          have d2 : y_in D (z_b (nI o - (x - y))) := d2
          rw [y_nI0, Int32.add_zero] at e'
          rw [e', e3, e2] at d2
          rw [y_ring3 xc (nI o) xa]
          exact d2
        · exact ih z3
      · exact ih z1
  obtain ⟨D, d1, hv3⟩ := gen h.1 (fun _ q => q) hv2
  exact y_add (rl' := (1, a, c, n) :: h.1) (ax' := h.2.2.1) hK he hfx hnl hps hps0 d1 (fun ρ' u1 u6 => y_rl1 (op := 1) hr u1.1 ia ic u6) (fun ρ' u1 _ => y_axr_mono u1 hax) hv3
-- what is known of a place under another name
theorem y_cpa_ok {ρ : yRo} {cw : va_W} {v g : yV} {x : Int32} (iv : y_gi (y_sg ρ) v x) (ig : y_gi (y_sg ρ) g x) : ∀ {l ax : List yA}, y_axr tb ρ b cw l → y_axr tb ρ b cw ax → y_axr tb ρ b cw (y_fl (fun q r => cond (y_eqv q.2.2.1 v) ((q.1, q.2.1, g, q.2.2.2) :: r) r) ax l)
  | [], _, _, hx => hx
  | q :: l, ax, hl, hx => by
    have ih := y_cpa_ok iv ig (l := l) (fun p hp => hl p (List.mem_cons_of_mem _ hp)) hx
    show y_axr tb ρ b cw (cond (y_eqv q.2.2.1 v) ((q.1, q.2.1, g, q.2.2.2) :: y_fl _ ax l) (y_fl _ ax l))
    cases hc : y_eqv q.2.2.1 v with
    | false => exact ih
    | true =>
      intro p hp
      rcases List.mem_cons.mp hp with rfl | hp
      · obtain ⟨z0, p, a, cA, len, f, z, z1, z2, z3, z4, z5⟩ := hl q List.mem_cons_self
        rw [y_eqv_ok hc] at z3
        rw [y_gi_fun z3 iv] at z4 z5
        exact ⟨z0, p, a, cA, len, f, x, z1, z2, ig, z4, z5⟩
      · exact ih p hp
noncomputable def y_al1 (j g : Nat) : yPf := fun lo _ n env h k => y_lkl lo j fun v => cond (y_isI v) (y_rs env v fun v => y_lk env g fun _ => y_df h.1 env (y_sy g) v fun D => cond (y_sub D [(2147483648, 2147483648)]) (k n env (h.1, h.2.1, y_fl (fun q r => cond (y_eqv q.2.2.1 v) ((q.1, q.2.1, y_sy g, q.2.2.2) :: r) r) h.2.2.1 h.2.2.1, h.2.2.2)) false) false
theorem y_lk_x2 {sg : List Int32} {env : yEnv} {i : Nat} {k : yD → Bool} (h : y_lk env i k = true) (he : y_erel sg env) : ∃ x D, sg[i]? = some x ∧ k D = true := by
  induction env with
  | nil => cases h
  | cons q env ih =>
    rcases y_bool (show cond (Nat.beq q.1 i) (k q.2) (y_lk env i k) = true from h) with ⟨hc, h⟩ | ⟨_, h⟩
    · obtain ⟨x', h1, h2⟩ := he q List.mem_cons_self
      rw [Nat.eq_of_beq_eq_true hc] at h1
      exact ⟨x', q.2, h1, h⟩
    · exact ih h (fun p hp => he p (List.mem_cons_of_mem _ hp))
theorem y_ring4 (x y : Int32) (h : z_b (x - y) = 2147483648) : x = y := by
  have i3 := z_b_int (x - y)
  have h0 : (x - y) = 0 := by
    apply Int32.toInt_inj.mp
    have : (0 : Int32).toInt = 0 := by decide
    omega
  have : x - y + y = 0 + y := by rw [h0]
  grind
theorem y_al1_ok (j g : Nat) : y_H1 cls K (y_al1 j g) tb b := by
  intro lo st n env h k ρ cw tys cst lv hK had hW he hr hfx hax hnl hps hps0 hLR hSR hev
  obtain ⟨v, w, _, gv, hv1⟩ := y_lkl_lk hLR hev
  obtain ⟨hI, hv1⟩ := z_cond hv1
  obtain ⟨x, rfl, iv⟩ := y_isI_ok hI gv
  obtain ⟨v', iv', hv2⟩ := y_rs_ok hv1 he iv
  obtain ⟨xg, _, ig, hv3⟩ := y_lk_x2 hv2 he
  obtain ⟨D, d1, hv4⟩ := y_df_ok hv3 hr he (show y_gi (y_sg ρ) (y_sy g) xg from ig) iv'
  obtain ⟨hz, hv5⟩ := z_cond hv4
  have e := y_ring4 _ _ (y_in_pt (y_sub_ok hz d1))
  have hx' := y_cpa_ok (v := v') (g := y_sy g) iv' (show y_gi (y_sg ρ) (y_sy g) x by rw [← e]; exact ig) hax hax
  exact ⟨ρ, n, env, (h.1, h.2.1, y_fl (fun q r => cond (y_eqv q.2.2.1 v') ((q.1, q.2.1, y_sy g, q.2.2.2) :: r) r) h.2.2.1 h.2.2.1, h.2.2.2), y_rle_refl ρ, rfl, rfl, hnl, ⟨hps, hps0⟩, he, hr, hfx, hx', hK, hv5⟩
noncomputable def y_cp1 (rl : List yR) (v x : yV) (o : Nat) (q : yA) (ih : (List yA → Bool) → Bool) (k : List yA → Bool) : Bool := y_nrm rl 64 q.2.2.1 0 fun x' o' => cond (and (y_eqv x' x) (Nat.beq o' o)) (ih fun t => k ((q.1, q.2.1, v, q.2.2.2) :: t)) (ih k)
theorem y_cp1_ok {sg : List Int32} {rl : List yR} (hr : y_rrel sg rl) {v x : yV} {o : Nat} {z zx : Int32} (ix : y_gi sg x zx) (ez : z = zx + nI o) {q : yA} {ih : (List yA → Bool) → Bool} {k : List yA → Bool} {y : Int32} (h : y_cp1 rl v x o q ih k = true) (iq : y_gi sg q.2.2.1 y) : (y = z ∧ ih (fun t => k ((q.1, q.2.1, v, q.2.2.2) :: t)) = true) ∨ ih k = true := by
  unfold y_cp1 at h
  obtain ⟨x', o', y', i', e', h1⟩ := y_nrm_ok hr 64 h iq
  rcases y_bool h1 with ⟨hc, h2⟩ | ⟨_, h2⟩
  · obtain ⟨c1, c2⟩ := z_and hc
    rw [y_eqv_ok c1] at i'
    have e1 := y_gi_fun i' ix
    rw [y_nI0, Int32.add_zero, e1, Nat.eq_of_beq_eq_true c2] at e'
    exact Or.inl ⟨e'.trans ez.symm, h2⟩
  · exact Or.inr h2
theorem y_cpn_ok {ρ : yRo} {cw : va_W} {rl : List yR} (hr : y_rrel (y_sg ρ) rl) {v x : yV} {o : Nat} {z zx : Int32} (iv : y_gi (y_sg ρ) v z) (ix : y_gi (y_sg ρ) x zx) (ez : z = zx + nI o) : ∀ {l ax : List yA} {k : List yA → Bool}, y_fl (y_cp1 rl v x o) (fun k => k ax) l k = true → y_axr tb ρ b cw l → y_axr tb ρ b cw ax → ∃ ax', y_axr tb ρ b cw ax' ∧ k ax' = true
  | [], ax, k, h, _, hx => ⟨ax, hx, h⟩
  | q :: l, ax, k, h, hl, hx => by
    obtain ⟨z0, p, a, cA, len, f, y, z1, z2, z3, z4, z5⟩ := hl q List.mem_cons_self
    have hl' : y_axr tb ρ b cw l := fun p hp => hl p (List.mem_cons_of_mem _ hp)
    rw [y_fl_cons] at h
    rcases y_cp1_ok hr ix ez h z3 with ⟨e2, h2⟩ | h2
    · subst e2
      obtain ⟨ax', k1, k2⟩ := y_cpn_ok hr iv ix ez h2 hl' hx
      refine ⟨_, fun p' hp' => ?_, k2⟩
      rcases List.mem_cons.mp hp' with rfl | hp'
      · exact ⟨z0, p, a, cA, len, f, y, z1, z2, iv, z4, z5⟩
      · exact k1 p' hp'
    · exact y_cpn_ok hr iv ix ez h2 hl' hx
noncomputable def y_aln : yPf := fun _ st n env h k => y_one1 st fun v => y_nrm h.1 64 v 0 fun x o => y_fl (y_cp1 h.1 v x o) (fun k => k h.2.2.1) h.2.2.1 fun ax => k n env (h.1, h.2.1, ax, h.2.2.2)
theorem y_aln_ok : y_H1 cls K y_aln tb b := by
  intro lo st n env h k ρ cw tys cst lv hK had hW he hr hfx hax hnl hps hps0 hLR hSR hev
  obtain ⟨v, z, iv, hv1⟩ := y_one1_ok hev hSR
  obtain ⟨x, o, zx, ix, ez, hv2⟩ := y_nrm_ok hr 64 hv1 iv
  rw [y_nI0, Int32.add_zero] at ez
  obtain ⟨ax', k1, k2⟩ := y_cpn_ok hr iv ix ez hv2 hax hax
  exact ⟨ρ, n, env, (h.1, h.2.1, ax', h.2.2.2), y_rle_refl ρ, rfl, rfl, hnl, ⟨hps, hps0⟩, he, hr, hfx, k1, hK, k2⟩
-- what is on top is a row's element, as it was
noncomputable def y_ntv : yPf := fun _ st n env h k => y_one1 st fun v => y_fl (fun q r => cond (and (Nat.beq q.1 0) (y_eqv q.2.2.2 v)) (k n env (h.1, h.2.1, h.2.2.1, (2, q.2.1, q.2.2.1, v) :: h.2.2.2)) r) false h.2.2.1
theorem y_ntv_ok : y_H1 cls K y_ntv tb b := by
  intro lo st n env h k ρ cw tys cst lv hK had hW he hr hfx hax hnl hps hps0 hLR hSR hev
  obtain ⟨v, z, iv, hv1⟩ := y_one1_ok hev hSR
  obtain ⟨q, hq, hc, hv2⟩ := y_fl_ex hv1
  obtain ⟨c1, c2⟩ := z_and hc
  have c1 := Nat.eq_of_beq_eq_true c1
  obtain ⟨z0, p, a, cA, len, f, x, z1, z2, z3, z4, z5⟩ := hax q hq
  rw [y_eqv_ok c2] at z5
  rw [c1] at z1
  have e : q.2.1 = p := Option.some.inj z1
  subst e
  have ef : z = f x.toNatClampNeg := by
    match v, iv, z5 with
    | .inl u, iv, z5 => exact Eq.trans iv (Eq.symm (Value.int.inj z5))
    | .inr (.inl i), iv, ⟨x', h1, h2⟩ =>
      have iv : (y_sg ρ)[i]? = some z := iv
      rw [iv] at h1
      cases h1
      cases h2
      rfl
    | .inr (.inr _), iv, _ => exact iv.elim
  rw [ef] at iv
  obtain ⟨cwB, b1, b2⟩ := hK
  exact ⟨ρ, n, env, (h.1, h.2.1, h.2.2.1, (2, q.2.1, q.2.2.1, v) :: h.2.2.2), y_rle_refl ρ, rfl, rfl, hnl, ⟨hps, hps0⟩, he, hr, hfx, hax, ⟨cwB, b1, cw, a, cA, len, f, x, b2, z0 c1, z2, z3, z4, iv, y_same_refl _ _ _⟩, hv2⟩
end YP
