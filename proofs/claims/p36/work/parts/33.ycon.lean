section YH
variable {wt : zTB} {nw : List Jvm.Cond} {cls : List vw_C} {hn : yHn} {tb : yTb} {l : Launch} {D : va_G} {K : va_W → Prop} {b fu : Nat}
variable {ρ : yRo} {H : Heap} {locs : List Loc} {cw cw' : va_W} {tys : List (ClassId × FieldType)} {n : Nat} {env : yEnv}
theorem y_fxr_same {wr : yWr} {fx fx' : List yF} (hf : y_fxr tb ρ b cw fx) (hk : ∀ q ∈ fx', q ∈ fx ∧ (q.1 = 0 → (q.2.1, q.2.2.1) ∉ wr.1) ∧ (1 ≤ q.1 → wr.2.2 = false)) (hps : ∀ i p, y_ps ρ i = some p → tb.1.length ≤ p) (hs : y_same tb.1.length wr cw cw') : y_fxr tb ρ b cw' fx' := by
  intro q hq
  obtain ⟨h1, h2, h3⟩ := hk q hq
  obtain ⟨g0, p, a, ci, vs, w, g1, g2, g3, g4⟩ := hf q h1
  obtain ⟨vs', g5, g6⟩ := hs.2.1 p a ci vs g2
  refine ⟨g0, p, a, ci, vs', w, g1, g5, ?_, g4⟩
  cases hq1 : q.1 with
  | zero =>
    have := g0 hq1
    rw [hq1] at g1
    have e : q.2.1 = p := Option.some.inj g1
    rw [g6 _ (fun _ => by rw [← e]; exact h2 hq1) (fun z => by omega)]
    exact g3
  | succ j =>
    rw [hq1] at g1
    have := hps _ _ g1
    rw [g6 _ (fun z => by omega) (fun _ => h3 (by omega))]
    exact g3
theorem y_axr_same {wr : yWr} {ax ax' : List yA} (hf : y_axr tb ρ b cw ax) (hk : ∀ q ∈ ax', q ∈ ax ∧ (q.1 = 0 → q.2.1 ∉ wr.2.1) ∧ (1 ≤ q.1 → wr.2.2 = false)) (hps : ∀ i p, y_ps ρ i = some p → tb.1.length ≤ p) (hs : y_same tb.1.length wr cw cw') : y_axr tb ρ b cw' ax' := by
  intro q hq
  obtain ⟨h1, h2, h3⟩ := hk q hq
  obtain ⟨g0, p, a, cA, len, f, x, g1, g2, g3, gx, g4⟩ := hf q h1
  refine ⟨g0, p, a, cA, len, f, x, g1, ?_, g3, gx, g4⟩
  cases hq1 : q.1 with
  | zero =>
    have := g0 hq1
    rw [hq1] at g1
    have e : q.2.1 = p := Option.some.inj g1
    exact hs.2.2 p _ g2 ⟨_, rfl⟩ (fun _ => by rw [← e]; exact h2 hq1) (fun z => by omega)
  | succ j =>
    rw [hq1] at g1
    have := hps _ _ g1
    exact hs.2.2 p _ g2 ⟨_, rfl⟩ (fun z => by omega) (fun _ => h3 (by omega))
theorem y_same_le {n0 : Nat} {wr wr' : yWr} (h1 : ∀ q ∈ wr'.1, q ∈ wr.1) (h2 : ∀ q ∈ wr'.2.1, q ∈ wr.2.1) (h3 : wr'.2.2 = true → wr.2.2 = true) (h : y_same n0 wr' cw cw') : y_same n0 wr cw cw' := by
  have h4 : wr.2.2 = false → wr'.2.2 = false := fun z => by
    cases hw : wr'.2.2 with
    | false => rfl
    | true => rw [h3 hw] at z; cases z
  refine ⟨h.1, fun p a ci vs q => ?_, fun p e q hx q1 q2 => h.2.2 p e q hx (fun z w => q1 z (h2 _ w)) (fun z => h4 (q2 z))⟩
  obtain ⟨vs', g1, g2⟩ := h.2.1 p a ci vs q
  exact ⟨vs', g1, fun f q1 q2 => g2 f (fun z w => q1 z (h1 _ w)) (fun z => h4 (q2 z))⟩
theorem y_wf_ok {i f : Nat} (h : y_wf tb 0 i f = true) : (i, f) ∈ tb.2.2.2.2.2.1 := by
  have : ∀ l : List (Nat × Nat), y_fl (fun q r => or (and (Nat.beq q.1 i) (Nat.beq q.2 f)) r) false l = true → (i, f) ∈ l := by
    intro l
    induction l with
    | nil => intro z; cases z
    | cons w l ih =>
      intro z
      have z : or (and (Nat.beq w.1 i) (Nat.beq w.2 f)) (y_fl (fun q r => or (and (Nat.beq q.1 i) (Nat.beq q.2 f)) r) false l) = true := z
      rw [Bool.or_eq_true] at z
      rcases z with z | z
      · obtain ⟨z1, z2⟩ := z_and z
        rw [← Nat.eq_of_beq_eq_true z1, ← Nat.eq_of_beq_eq_true z2]
        exact List.mem_cons_self
      · exact List.mem_cons_of_mem _ (ih z)
  exact this _ h
theorem y_wle_ok {wr : yWr} (h : y_wle tb wr = true) : (∀ q ∈ wr.1, q ∈ tb.2.2.2.2.2.1) ∧ (∀ q ∈ wr.2.1, q ∈ tb.2.2.2.2.2.2.1) ∧ (wr.2.2 = true → tb.2.2.2.2.2.2.2 = true) := by
  obtain ⟨h1, h2⟩ := z_and h
  obtain ⟨h3, h4⟩ := z_and h1
  refine ⟨?_, ?_, fun z => ?_⟩
  · have : ∀ l : List (Nat × Nat), y_fl (fun q r => and (y_wf tb 0 q.1 q.2) r) true l = true → ∀ q ∈ l, q ∈ tb.2.2.2.2.2.1 := by
      intro l
      induction l with
      | nil => intro _ q hq; cases hq
      | cons w l ih =>
        intro z q hq
        obtain ⟨z1, z2⟩ := z_and (show and (y_wf tb 0 w.1 w.2) (y_fl (fun q r => and (y_wf tb 0 q.1 q.2) r) true l) = true from z)
        rcases List.mem_cons.mp hq with rfl | hq
        · exact y_wf_ok z1
        · exact ih z2 q hq
    exact this _ h3
  · have : ∀ l : List Nat, y_fl (fun q r => and (y_wa tb 0 q) r) true l = true → ∀ q ∈ l, q ∈ tb.2.2.2.2.2.2.1 := by
      intro l
      induction l with
      | nil => intro _ q hq; cases hq
      | cons w l ih =>
        intro z q hq
        obtain ⟨z1, z2⟩ := z_and (show and (y_wa tb 0 w) (y_fl (fun q r => and (y_wa tb 0 q) r) true l) = true from z)
        rcases List.mem_cons.mp hq with rfl | hq
        · exact y_mem_ok z1
        · exact ih z2 q hq
    exact this _ h4
  · rw [z] at h2
    exact h2
theorem y_pre_ok {fx : List yF} {ps : yPre} (h : y_pre tb env fx ps = true) (he : y_erel (y_sg ρ) env) (hf : y_fxr tb ρ b cw fx) : y_facts tb.1.length cw ps := by
  induction ps with
  | nil => exact fun q hq => by cases hq
  | cons q ps ih =>
    obtain ⟨h1, h2⟩ := z_and (show and (y_ff fx 0 q.1 q.2.1 (fun v => y_dm env v fun D => y_sub D q.2.2) false) (y_pre tb env fx ps) = true from h)
    rcases y_ff_ok h1 hf with ⟨v, p, a, ci, vs, w, g0, g1, g2, g3, g4, g5⟩ | z
    · have e : q.1 = p := Option.some.inj g1
      have hI : y_isI v = true := by
        cases v with
        | inl u => rfl
        | inr r =>
          cases r with
          | inl i => rfl
          | inr _ => cases g5
      obtain ⟨x, hx, hi⟩ := y_isI_ok hI g4
      obtain ⟨D, d1, d2⟩ := y_dm_ok g5 he hi
      intro q' hq'
      rcases List.mem_cons.mp hq' with rfl | hq'
      · exact ⟨g0 rfl, a, ci, vs, x, by rw [e]; exact g2, by rw [← hx]; exact g3, y_sub_ok d2 d1⟩
      · exact ih h2 q' hq'
    · cases z
theorem y_fits_ok : ∀ {ts : List yT} {as : List yV} {av : List Value}, y_fits ts as env = true → (∀ i p, y_ps ρ i = some p → tb.1.length ≤ p) → y_erel (y_sg ρ) env → y_SR (y_g tb ρ b) as av → y_TV (y_tv tb (y_ad ρ) (y_tg ρ)) ts av
  | [], [], [], _, _, _, _ => trivial
  | [], _ :: _, _, h, _, _, _ => by cases h
  | _ :: _, [], _, h, _, _, _ => by cases h
  | t :: ts, a :: as, v :: av, h, h0, he, hs => by
    obtain ⟨h1, h2⟩ := z_and (show and (y_fit t env a) (y_fits ts as env) = true from h)
    exact ⟨y_fit_ok h1 h0 he hs.1, y_fits_ok h2 h0 he hs.2⟩
  | [], [], _ :: _, _, _, _, hs => hs.elim
  | _ :: _, _ :: _, [], _, _, _, hs => hs.elim
theorem y_post_ok : ∀ {ps : yPre} {n : Nat} {env : yEnv} {fx : List yF} {k : Nat → yEnv → List yF → Bool} {ρ : yRo}, y_post ps n env fx k = true → y_facts tb.1.length cw ps → (y_sg ρ).length = n → (∀ i, n ≤ i → y_ps ρ i = none) → (∀ i p, y_ps ρ i = some p → tb.1.length ≤ p) → y_erel (y_sg ρ) env → y_fxr tb ρ b cw fx → ∃ ρ' n' env' fx', y_rle ρ ρ' ∧ y_ad ρ' = y_ad ρ ∧ y_tg ρ' = y_tg ρ ∧ (y_sg ρ').length = n' ∧ ((∀ i, n' ≤ i → y_ps ρ' i = none) ∧ ∀ i p, y_ps ρ' i = some p → tb.1.length ≤ p) ∧ y_erel (y_sg ρ') env' ∧ y_fxr tb ρ' b cw fx' ∧ k n' env' fx' = true
  | [], n, env, fx, k, ρ, h, _, hn, hp, h0, he, hf => ⟨ρ, n, env, fx, y_rle_refl ρ, rfl, rfl, hn, ⟨hp, h0⟩, he, hf, h⟩
  | q :: ps, n, env, fx, k, ρ, h, hfa, hn, hp, h0, he, hf => by
    have h : z_frc (n + 1) (fun n' => y_post ps n' ((n, q.2.2) :: env) ((0, q.1, q.2.1, y_sy n) :: fx) k) = true := h
    rw [z_frc_eq] at h
    obtain ⟨f0, a, ci, vs, x, f1, f2, f3⟩ := hfa q List.mem_cons_self
    obtain ⟨ρ', g1, g2, g3, g4, g5, g6, g7⟩ := y_new hn hp h0 x none (fun p q => by cases q)
    obtain ⟨ρ'', n', env', fx', k1, k2, k3, k4, k5, k6, k7, k8⟩ := y_post_ok (ρ := ρ') h (fun q' hq' => hfa q' (List.mem_cons_of_mem _ hq')) g4 g5.1 g5.2 (y_erel_cons (y_erel_mono g1.1 he) g6 f3) (fun q' hq' => by
      rcases List.mem_cons.mp hq' with rfl | hq'
      · exact ⟨fun _ => f0, q.1, a, ci, vs, .int x, rfl, f1, f2, ⟨x, g6, rfl⟩⟩
      · exact y_fxr_mono g1 hf q' hq')
    exact ⟨ρ'', n', env', fx', y_rle_trans g1 k1, k2.trans g2, k3.trans g3, k4, k5, k6, k7, k8⟩
end YH
