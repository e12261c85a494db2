-- a hint's pieces
abbrev yPf : Type := yLo → List yV → Nat → yEnv → yHp → (Nat → yEnv → yHp → Bool) → Bool
/-- a piece is true -/
def y_H1 (cls : List vw_C) (K : va_W → Prop) (f : yPf) (tb : yTb) (b : Nat → Nat) : Prop :=
  ∀ (lo : yLo) (st : List yV) (n : Nat) (env : yEnv) (h : yHp) (k : Nat → yEnv → yHp → Bool) (ρ : yRo) (cw : va_W) (tys : List (ClassId × FieldType)) (cst : List Value) (lv : List (Nat × Value)), y_KL tb K (y_sg ρ) h.2.2.2 cw → y_ad ρ = cw.map Prod.fst → y_WT tb cls tys (y_tg ρ) cw → y_erel (y_sg ρ) env → y_rrel (y_sg ρ) h.1 → y_fxr tb ρ b cw h.2.1 → y_axr tb ρ b cw h.2.2.1 → (y_sg ρ).length = n → (∀ i, n ≤ i → y_ps ρ i = none) → (∀ i p, y_ps ρ i = some p → tb.1.length ≤ p) → y_LR (y_g tb ρ b) lo lv → y_SR (y_g tb ρ b) st cst → f lo st n env h k = true →
    ∃ ρ' n' env' h', y_rle ρ ρ' ∧ y_ad ρ' = y_ad ρ ∧ y_tg ρ' = y_tg ρ ∧ (y_sg ρ').length = n' ∧ ((∀ i, n' ≤ i → y_ps ρ' i = none) ∧ ∀ i p, y_ps ρ' i = some p → tb.1.length ≤ p) ∧ y_erel (y_sg ρ') env' ∧ y_rrel (y_sg ρ') h'.1 ∧ y_fxr tb ρ' b cw h'.2.1 ∧ y_axr tb ρ' b cw h'.2.2.1 ∧ y_KL tb K (y_sg ρ') h'.2.2.2 cw ∧ k n' env' h' = true
def y_then (f g : yPf) : yPf := fun lo st n env h k => f lo st n env h fun n env h => g lo st n env h k
def y_skip : yPf := fun _ _ n env h k => k n env h
def y_try (f : yPf) : yPf := fun lo st n env h k => or (f lo st n env h k) (k n env h)
section YP
variable {cls : List vw_C} {K : va_W → Prop} {tb : yTb} {b : Nat → Nat}
theorem y_skip_ok : y_H1 cls K y_skip tb b := fun lo st n env h k ρ cw tys cst lv hK had hW he hr hfx hax hnl hps hps0 hLR hSR hev => ⟨ρ, n, env, h, y_rle_refl ρ, rfl, rfl, hnl, ⟨hps, hps0⟩, he, hr, hfx, hax, hK, hev⟩
theorem y_then_ok {f g : yPf} (hf : y_H1 cls K f tb b) (hg : y_H1 cls K g tb b) : y_H1 cls K (y_then f g) tb b := by
  intro lo st n env h k ρ cw tys cst lv hK had hW he hr hfx hax hnl hps hps0 hLR hSR hev
  obtain ⟨ρ1, n1, env1, h1, a1, a2, a3, a4, a5, a6, a7, a8, a9, a10, hev1⟩ := hf lo st n env h _ ρ cw tys cst lv hK had hW he hr hfx hax hnl hps hps0 hLR hSR hev
  obtain ⟨ρ2, n2, env2, h2, b1, b2, b3, b4, b5, b6, b7, b8, b9, b10, hev2⟩ := hg lo st n1 env1 h1 k ρ1 cw tys cst lv a10 (a2.trans had) (by rw [a3]; exact hW) a6 a7 a8 a9 a4 a5.1 a5.2 (y_LR_mono (fun _ _ => y_g_mono a1) hLR) (y_SR_mono (fun _ _ => y_g_mono a1) hSR) hev1
  exact ⟨ρ2, n2, env2, h2, y_rle_trans a1 b1, b2.trans a2, b3.trans a3, b4, b5, b6, b7, b8, b9, b10, hev2⟩
theorem y_try_ok {f : yPf} (hf : y_H1 cls K f tb b) : y_H1 cls K (y_try f) tb b := by
  intro lo st n env h k ρ cw tys cst lv hK had hW he hr hfx hax hnl hps hps0 hLR hSR hev
  rcases Bool.or_eq_true_iff.mp hev with hev | hev
  · exact hf lo st n env h k ρ cw tys cst lv hK had hW he hr hfx hax hnl hps hps0 hLR hSR hev
  · exact y_skip_ok lo st n env h k ρ cw tys cst lv hK had hW he hr hfx hax hnl hps hps0 hLR hSR hev
/-- what only adds a sign, with relations and facts about it -/
theorem y_add {ρ : yRo} {n : Nat} {cw : va_W} {env : yEnv} {h : yHp} {k : Nat → yEnv → yHp → Bool} {D : yD} {x : Int32} {rl' : List yR} {ax' : List yA} (hK : y_KL tb K (y_sg ρ) h.2.2.2 cw) (he : y_erel (y_sg ρ) env) (hfx : y_fxr tb ρ b cw h.2.1) (hnl : (y_sg ρ).length = n) (hps : ∀ i, n ≤ i → y_ps ρ i = none) (hps0 : ∀ i p, y_ps ρ i = some p → tb.1.length ≤ p) (hD : y_in D (z_b x)) (hr' : ∀ ρ' : yRo, y_rle ρ ρ' → (y_sg ρ')[n]? = some x → y_rrel (y_sg ρ') rl') (hax' : ∀ ρ' : yRo, y_rle ρ ρ' → (y_sg ρ')[n]? = some x → y_axr tb ρ' b cw ax') (hk : k (n + 1) ((n, D) :: env) (rl', h.2.1, ax', h.2.2.2) = true) : ∃ ρ' n' env' h', y_rle ρ ρ' ∧ y_ad ρ' = y_ad ρ ∧ y_tg ρ' = y_tg ρ ∧ (y_sg ρ').length = n' ∧ ((∀ i, n' ≤ i → y_ps ρ' i = none) ∧ ∀ i p, y_ps ρ' i = some p → tb.1.length ≤ p) ∧ y_erel (y_sg ρ') env' ∧ y_rrel (y_sg ρ') h'.1 ∧ y_fxr tb ρ' b cw h'.2.1 ∧ y_axr tb ρ' b cw h'.2.2.1 ∧ y_KL tb K (y_sg ρ') h'.2.2.2 cw ∧ k n' env' h' = true := by
  obtain ⟨ρ', u1, u2, u3, u4, u5, u6, u7⟩ := y_new hnl hps hps0 x none (fun p q => by cases q)
  exact ⟨ρ', n + 1, (n, D) :: env, (rl', h.2.1, ax', h.2.2.2), u1, u2, u3, u4, u5, y_erel_cons (y_erel_mono u1.1 he) u6 hD, hr' ρ' u1 u6, y_fxr_mono u1 hfx, hax' ρ' u1 u6, y_KL_mono u1 hK, hk⟩
theorem y_rl1 {sg sg' : List Int32} {rl : List yR} {op n : Nat} {a c : yV} {x y : Int32} (hr : y_rrel sg rl) (hm : y_le sg sg') (ha : y_gi sg a x) (hc : y_gi sg c y) (hn : sg'[n]? = some (y_op op x y)) : y_rrel sg' ((op, a, c, n) :: rl) := fun q hq => by
  rcases List.mem_cons.mp hq with rfl | hq
  · exact ⟨x, y, y_gi_mono hm ha, y_gi_mono hm hc, hn⟩
  · exact y_rrel_mono hm hr q hq
-- all relations once more
noncomputable def y_ppr : yPf := fun _ _ n env h k => y_pr h.1 env fun env => k n env h
theorem y_ppr_ok : y_H1 cls K y_ppr tb b := by
  intro lo st n env h k ρ cw tys cst lv hK had hW he hr hfx hax hnl hps hps0 hLR hSR hev
  obtain ⟨e1, he1, h1⟩ := y_pr_ok hr hev he
  exact ⟨ρ, n, e1, h, y_rle_refl ρ, rfl, rfl, hnl, ⟨hps, hps0⟩, he1, hr, hfx, hax, hK, h1⟩
/-- a relation of a kind whose sign this is -/
noncomputable def y_frs (op : Nat) (v : yV) (rl : List yR) (k : yV → yV → Bool) : Bool := y_fl (fun q r => cond (and (Nat.beq q.1 op) (y_eqv (y_sy q.2.2.2) v)) (k q.2.1 q.2.2.1) r) false rl
theorem y_frs_ok {sg : List Int32} {op : Nat} {v : yV} {k : yV → yV → Bool} {z : Int32} : ∀ {rl : List yR}, y_frs op v rl k = true → y_rrel sg rl → y_gi sg v z → ∃ a c x y, y_gi sg a x ∧ y_gi sg c y ∧ z = y_op op x y ∧ k a c = true
  | [], h, _, _ => by cases h
  | q :: rl, h, hr, hz => by
    rcases y_bool (show cond (and (Nat.beq q.1 op) (y_eqv (y_sy q.2.2.2) v)) (k q.2.1 q.2.2.1) (y_frs op v rl k) = true from h) with ⟨hc, h1⟩ | ⟨_, h1⟩
    · obtain ⟨c1, c2⟩ := z_and hc
      obtain ⟨x, y, g1, g2, g3⟩ := hr q List.mem_cons_self
      have c2 := y_eqv_ok c2
      subst c2
      rw [Nat.eq_of_beq_eq_true c1] at g3
      exact ⟨_, _, x, y, g1, g2, Option.some.inj (Eq.trans (Eq.symm (show sg[q.2.2.2]? = some z from hz)) g3), h1⟩
    · exact y_frs_ok h1 (fun p hp => hr p (List.mem_cons_of_mem _ hp)) hz
/-- the two on top -/
noncomputable def y_two (st : List yV) (f : yV → yV → Bool) : Bool := match st with
  | y :: x :: _ => cond (and (y_isI x) (y_isI y)) (f x y) false
  | _ => false
theorem y_two_ok {ρ : yRo} {st : List yV} {cst : List Value} {f : yV → yV → Bool} (h : y_two st f = true) (hSR : y_SR (y_g tb ρ b) st cst) : ∃ x y x1 x0, y_gi (y_sg ρ) x x1 ∧ y_gi (y_sg ρ) y x0 ∧ f x y = true := by
  match st, h, hSR with
  | y :: x :: t, h, hSR =>
    obtain ⟨hI, h⟩ := z_cond (show cond (and (y_isI x) (y_isI y)) (f x y) false = true from h)
    obtain ⟨hI1, hI0⟩ := z_and hI
    obtain ⟨v0, ct0, rfl, g0, hSR0⟩ := y_SR_cons hSR
    obtain ⟨v1, ct1, rfl, g1, _⟩ := y_SR_cons hSR0
    obtain ⟨x0, rfl, i0⟩ := y_isI_ok hI0 g0
    obtain ⟨x1, rfl, i1⟩ := y_isI_ok hI1 g1
    exact ⟨x, y, x1, x0, i1, i0, h⟩
noncomputable def y_dsum : yPf := fun _ st n env h k => y_two st fun x y => (y_nrm h.1 64 x 0 fun c oc => y_nrm h.1 64 y 0 fun a oa => y_fl (fun q r => cond (and (Nat.beq q.1 0) (and (y_eqv (y_sy q.2.2.2) c) (y_eqv q.2.1 a))) (z_frc (z_un (nI oc - nI oa)) fun o => y_dm env q.2.2.1 fun Dm => z_frc (z_bu o) fun bo => y_dop 0 Dm [(bo, bo)] fun D => z_frc (n + 1) fun n' => y_pr ((1, x, y, n) :: (0, q.2.2.1, .inl o, n) :: h.1) ((n, D) :: env) fun env => k n' env ((1, x, y, n) :: (0, q.2.2.1, .inl o, n) :: h.1, h.2)) r) false h.1)
theorem y_fl_ex {α : Type} {c f : α → Bool} : ∀ {l : List α}, y_fl (fun q r => cond (c q) (f q) r) false l = true → ∃ q ∈ l, c q = true ∧ f q = true
  | [], h => by cases h
  | q :: l, h => by
    rcases y_bool (show cond (c q) (f q) (y_fl (fun q r => cond (c q) (f q) r) false l) = true from h) with ⟨hc, h1⟩ | ⟨_, h1⟩
    · exact ⟨q, List.mem_cons_self, hc, h1⟩
    · obtain ⟨p, p1, p2⟩ := y_fl_ex h1
      exact ⟨p, List.mem_cons_of_mem _ p1, p2⟩
theorem y_prK {ρ' : yRo} {ρ : yRo} {cw : va_W} {n : Nat} {env : yEnv} {h : yHp} {k : Nat → yEnv → yHp → Bool} (u : y_rle ρ ρ' ∧ y_ad ρ' = y_ad ρ ∧ y_tg ρ' = y_tg ρ ∧ (y_sg ρ').length = n ∧ ((∀ i, n ≤ i → y_ps ρ' i = none) ∧ ∀ i p, y_ps ρ' i = some p → tb.1.length ≤ p)) (he : y_erel (y_sg ρ') env) (hr : y_rrel (y_sg ρ') h.1) (hfx : y_fxr tb ρ' b cw h.2.1) (hax : y_axr tb ρ' b cw h.2.2.1) (hK : y_KL tb K (y_sg ρ') h.2.2.2 cw) (hev : y_pr h.1 env (fun env => k n env h) = true) : ∃ ρ' n' env' h', y_rle ρ ρ' ∧ y_ad ρ' = y_ad ρ ∧ y_tg ρ' = y_tg ρ ∧ (y_sg ρ').length = n' ∧ ((∀ i, n' ≤ i → y_ps ρ' i = none) ∧ ∀ i p, y_ps ρ' i = some p → tb.1.length ≤ p) ∧ y_erel (y_sg ρ') env' ∧ y_rrel (y_sg ρ') h'.1 ∧ y_fxr tb ρ' b cw h'.2.1 ∧ y_axr tb ρ' b cw h'.2.2.1 ∧ y_KL tb K (y_sg ρ') h'.2.2.2 cw ∧ k n' env' h' = true := by
  obtain ⟨e1, he1, h1⟩ := y_pr_ok hr hev he
  exact ⟨ρ', n, e1, h, u.1, u.2.1, u.2.2.1, u.2.2.2.1, u.2.2.2.2, he1, hr, hfx, hax, hK, h1⟩
theorem y_in_z {o : Nat} {x : Int32} (h : x = nI o) : y_in [(z_bu o, z_bu o)] (z_b x) := by
  rw [h, z_b_nI]
  exact y_in_iv (Nat.le_refl _) (Nat.le_refl _)
theorem y_ring1 (w c a x : Int32) : w + (c - a) = x + w + c - (x + a) := by grind
theorem y_nI0 : (nI 0 : Int32) = 0 := by decide
theorem y_dsum_ok : y_H1 cls K y_dsum tb b := by
  intro lo st n env h k ρ cw tys cst lv hK had hW he hr hfx hax hnl hps hps0 hLR hSR hev
  obtain ⟨x, y, x1, x0, i1, i0, hev⟩ := y_two_ok hev hSR
  obtain ⟨c, oc, xc, j1, e1, hev⟩ := y_nrm_ok hr 64 hev i1
  obtain ⟨a, oa, xa, j2, e2, hev⟩ := y_nrm_ok hr 64 hev i0
  obtain ⟨q, hq, hc, hv2⟩ := y_fl_ex hev
  clear hev
  obtain ⟨c1, c2⟩ := z_and hc
  obtain ⟨c2, c3⟩ := z_and c2
  obtain ⟨u, w, r1, r2, r3⟩ := hr q hq
  rw [Nat.eq_of_beq_eq_true c1] at r3
  have c2 := y_eqv_ok c2
  have c3 := y_eqv_ok c3
  subst c2
  have r3' : xc = u + w := Option.some.inj (Eq.trans (Eq.symm (show (y_sg ρ)[q.2.2.2]? = some xc from j1)) r3)
  rw [c3] at r1
  have r1' : u = xa := y_gi_fun r1 j2
  have hev := hv2
  rw [z_frc_eq] at hev
  obtain ⟨Dm, d1, hev⟩ := y_dm_ok hev he r2
  rw [z_frc_eq] at hev
  have ho : nI (z_un (nI oc - nI oa)) = nI oc - nI oa := z_nI_un _
  obtain ⟨D, d2, hev⟩ := y_dop_ok (op := 0) (y := nI oc - nI oa) hev d1 (y_in_z ho.symm)
  rw [z_frc_eq] at hev
  have key : w + (nI oc - nI oa) = x1 - x0 := by
    rw [y_nI0, Int32.add_zero] at e1 e2
    rw [e1, e2, r3', r1']
    exact y_ring1 _ _ _ _
  have d2 : y_in D (z_b (w + (nI oc - nI oa))) := d2
  obtain ⟨ρ', u1, u2, u3, u4, u5, u6, u7⟩ := y_new hnl hps hps0 (w + (nI oc - nI oa)) none (fun p q => by cases q)
  refine y_prK (h := ((1, x, y, n) :: (0, q.2.2.1, .inl (z_un (nI oc - nI oa)), n) :: h.1, h.2)) ⟨u1, u2, u3, u4, u5⟩ (y_erel_cons (y_erel_mono u1.1 he) u6 d2) ?_ (y_fxr_mono u1 hfx) (y_axr_mono u1 hax) (y_KL_mono u1 hK) hev
  intro p hp
  rcases List.mem_cons.mp hp with rfl | hp
  · exact ⟨x1, x0, y_gi_mono u1.1 i1, y_gi_mono u1.1 i0, by rw [u6, key]; rfl⟩
  · exact y_rl1 (op := 0) hr u1.1 r2 (show y_gi (y_sg ρ) (.inl (z_un (nI oc - nI oa))) (nI oc - nI oa) from ho.symm) u6 p hp
end YP
