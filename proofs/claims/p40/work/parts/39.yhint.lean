-- a sign gone through number by number
def y_ufl (l : List yEnt) : List yEnt := match l with
  | [] => []
  | (q, i, a, b, c, _) :: r => (q, i, a, b, c, 0) :: r
theorem y_ufl_ok {mr : yMR} {pc : Nat} : ∀ x ∈ y_ufl (y_from (y_cd mr) pc), ∃ y ∈ y_cd mr, (x.1, x.2.1, x.2.2.1, x.2.2.2.1, x.2.2.2.2.1) = (y.1, y.2.1, y.2.2.1, y.2.2.2.1, y.2.2.2.2.1) := by
  have h := y_from_sub (y_cd mr) pc
  revert h
  cases y_from (y_cd mr) pc with
  | nil => intro _ x hx; cases hx
  | cons e es =>
    intro h x hx
    obtain ⟨q, i, a, b, c, fl⟩ := e
    rcases List.mem_cons.mp hx with rfl | hx
    · exact ⟨_, h _ List.mem_cons_self, rfl⟩
    · exact ⟨x, h _ (List.mem_cons_of_mem _ hx), rfl⟩
noncomputable def y_cnI (i : Nat) (env : yEnv) (k : yEnv → Bool) (a m : Nat) : Bool := Nat.rec (motive := fun _ => Bool) true (fun j r => and (z_frc (a + j) fun v => k ((i, [(v, v)]) :: env)) r) m
noncomputable def y_cnD (i : Nat) (env : yEnv) (k : yEnv → Bool) (D : yD) : Bool := y_fl (fun p r => and (y_cnI i env k p.1 (p.2 + 1 - p.1)) r) true D
noncomputable def y_cnc (v : yV) (env : yEnv) (k : yEnv → Bool) : Bool := match v with
  | .inr (.inl i) => y_lk env i fun D => y_cnD i env k D
  | _ => k env
theorem y_cnI_ok {i : Nat} {env : yEnv} {k : yEnv → Bool} {a n : Nat} : ∀ {m : Nat}, y_cnI i env k a m = true → a ≤ n → n < a + m → k ((i, [(n, n)]) :: env) = true
  | 0, _, h1, h2 => by omega
  | m + 1, h, h1, h2 => by
    obtain ⟨g1, g2⟩ := z_and (show and (z_frc (a + m) fun v => k ((i, [(v, v)]) :: env)) (y_cnI i env k a m) = true from h)
    rw [z_frc_eq] at g1
    by_cases e : n = a + m
    · rw [e]; exact g1
    · exact y_cnI_ok g2 h1 (by omega)
theorem y_cnc_ok {sg : List Int32} {v : yV} {env : yEnv} {k : yEnv → Bool} (h : y_cnc v env k = true) (he : y_erel sg env) (hs : ∀ i, v = y_sy i → ∃ x, sg[i]? = some x) : ∃ env', y_erel sg env' ∧ k env' = true := by
  match v, h, hs with
  | .inl u, h, _ => exact ⟨env, he, h⟩
  | .inr (.inr w), h, _ => exact ⟨env, he, h⟩
  | .inr (.inl i), h, hs =>
    obtain ⟨x, hx⟩ := hs i rfl
    obtain ⟨D, d1, h⟩ := y_lk_ok (show y_lk env i (fun D => y_cnD i env k D) = true from h) he hx
    obtain ⟨p, hp, p1, p2⟩ := d1
    have h1 := y_flall (f := fun p : Nat × Nat => y_cnI i env k p.1 (p.2 + 1 - p.1)) h p hp
    exact ⟨_, y_erel_cons he hx (y_in_iv (Nat.le_refl _) (Nat.le_refl _)), y_cnI_ok h1 p1 (by omega)⟩
noncomputable def y_hn0 : yHn := fun fl _ st n env h k => match fl with
  | 2 => y_pop1 st fun a _ => y_cnc a env fun env => y_pr h.1 env fun env => k n env h
  | 3 => y_pop1 st fun _ st => y_pop1 st fun a _ => y_cnc a env fun env => y_pr h.1 env fun env => k n env h
  | 4 => y_pop1 st fun b st => y_pop1 st fun a _ => y_bin 1 b a n env h.1 fun _ n env rl => k n env (rl, h.2)
  | _ => false
theorem y_hn0_ok {cls : List vw_C} {K : va_W → Prop} {tb : yTb} {b : Nat → Nat} : y_Hint cls K y_hn0 tb b := by
  intro fl lo st n env h k ρ cw tys cst lv hK had hW he hr hfx hax hnl hps hps0 hLR hSR hev
  have gen : ∀ {a : yV} {w : Value}, y_g tb ρ b a w → y_cnc a env (fun env => y_pr h.1 env fun env => k n env h) = true → ∃ env', y_erel (y_sg ρ) env' ∧ k n env' h = true := fun {a w} hg hc => by
    obtain ⟨e1, he1, h1⟩ := y_cnc_ok hc he (fun i e => by
      subst e
      obtain ⟨x, hx, _⟩ := (show ∃ x, (y_sg ρ)[i]? = some x ∧ w = .int x from hg)
      exact ⟨x, hx⟩)
    exact y_pr_ok hr h1 he1
  have same : (∃ env', y_erel (y_sg ρ) env' ∧ k n env' h = true) → ∃ ρ' n' env' h', y_rle ρ ρ' ∧ y_ad ρ' = y_ad ρ ∧ y_tg ρ' = y_tg ρ ∧ (y_sg ρ').length = n' ∧ ((∀ i, n' ≤ i → y_ps ρ' i = none) ∧ ∀ i p, y_ps ρ' i = some p → tb.1.length ≤ p) ∧ y_erel (y_sg ρ') env' ∧ y_rrel (y_sg ρ') h'.1 ∧ y_fxr tb ρ' b cw h'.2.1 ∧ y_axr tb ρ' b cw h'.2.2.1 ∧ y_KL tb K (y_sg ρ') h'.2.2.2 cw ∧ k n' env' h' = true := fun ⟨e1, h1, h2⟩ => ⟨ρ, n, e1, h, y_rle_refl ρ, rfl, rfl, hnl, ⟨hps, hps0⟩, h1, hr, hfx, hax, hK, h2⟩
  match fl, hev with
  | 0, hev => cases hev
  | 1, hev => cases hev
  | 2, hev =>
    obtain ⟨a, t, rfl, h1⟩ := y_pop1_ok (show y_pop1 st (fun a _ => y_cnc a env fun env => y_pr h.1 env fun env => k n env h) = true from hev)
    obtain ⟨v, ct, rfl, g1, _⟩ := y_SR_cons hSR
    exact same (gen g1 h1)
  | 3, hev =>
    obtain ⟨a0, t0, rfl, h0⟩ := y_pop1_ok (show y_pop1 st (fun _ st => y_pop1 st fun a _ => y_cnc a env fun env => y_pr h.1 env fun env => k n env h) = true from hev)
    obtain ⟨v0, ct0, rfl, g0, hSR0⟩ := y_SR_cons hSR
    obtain ⟨a, t, rfl, h1⟩ := y_pop1_ok h0
    obtain ⟨v, ct, rfl, g1, _⟩ := y_SR_cons hSR0
    exact same (gen g1 h1)
  | 4, hev =>
    obtain ⟨a0, t0, rfl, h0⟩ := y_pop1_ok (show y_pop1 st (fun b st => y_pop1 st fun a _ => y_bin 1 b a n env h.1 fun _ n env rl => k n env (rl, h.2)) = true from hev)
    obtain ⟨v0, ct0, rfl, g0, hSR0⟩ := y_SR_cons hSR
    obtain ⟨a, t, rfl, h1⟩ := y_pop1_ok h0
    obtain ⟨v, ct, rfl, g1, _⟩ := y_SR_cons hSR0
    obtain ⟨hi0, hi1⟩ := y_bin_int h1
    obtain ⟨x0, rfl, i0⟩ := y_isI_ok hi0 g0
    obtain ⟨x1, rfl, i1⟩ := y_isI_ok hi1 g1
    obtain ⟨sg', v', n', env', rl', z1, z2, z3, z4, z5, z6⟩ := y_bin_ok h1 hnl he hr i0 i1
    have hlen : n ≤ n' := by
      rw [← hnl, ← z2]
      rcases Nat.lt_or_ge sg'.length (y_sg ρ).length with q | q
      · exfalso
        obtain ⟨x, hx⟩ : ∃ x, (y_sg ρ)[sg'.length]? = some x := ⟨_, List.getElem?_eq_getElem q⟩
        have := z1 _ _ hx
        rw [List.getElem?_eq_none (Nat.le_refl _)] at this
        cases this
      · exact q
    have hle : y_rle ρ (sg', y_ps ρ, y_ad ρ, y_tg ρ) := ⟨z1, fun _ _ q => q, fun _ _ q => q, fun _ _ q => q⟩
    exact ⟨(sg', y_ps ρ, y_ad ρ, y_tg ρ), n', env', (rl', h.2), hle, rfl, rfl, z2, ⟨fun i q => hps i (Nat.le_trans hlen q), hps0⟩, z3, z4, y_fxr_mono hle hfx, y_axr_mono hle hax, y_KL_mono hle hK, z6⟩
  | n + 5, hev => cases hev
