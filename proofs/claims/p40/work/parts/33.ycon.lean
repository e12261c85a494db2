section YH
variable {wt : zTB} {nw : List Jvm.Cond} {cls : List vw_C} {hn : yHn} {tb : yTb} {l : Launch} {D : va_G} {K : va_W → Prop} {b : Nat → Nat} {fu : Nat}
variable {ρ : yRo} {H : Heap} {locs : List Loc} {cw cw' : va_W} {tys : List (ClassId × FieldType)} {n : Nat} {env : yEnv}
theorem y_fxr_same {wr : yWr} {fx fx' : List yF} (hf : y_fxr tb ρ b cw fx) (hk : ∀ q ∈ fx', q ∈ fx ∧ (q.1 = 0 → (q.2.1, q.2.2.1) ∉ wr.1) ∧ (1 ≤ q.1 → wr.2.2 = false)) (hps : ∀ i p, y_ps ρ i = some p → tb.1.length ≤ p) (hs : y_same tb.1.length wr cw cw') : y_fxr tb ρ b cw' fx' := by
  intro q hq
  obtain ⟨h1, h2, h3⟩ := hk q hq
  obtain ⟨g0, p, a, ci, vs, w, g1, g2, g3, g4⟩ := hf q h1
  obtain ⟨vs', g5, g6⟩ := hs.2.1 p a ci vs g2
  refine ⟨g0, p, a, ci, vs', w, g1, g5, ?_, g4⟩
  cases hq1 : q.1 with
  | zero =>
    have := g0 hq1
    rw [hq1] at g1
    have e : q.2.1 = p := Option.some.inj g1
    rw [g6 _ (fun _ => by rw [← e]; exact h2 hq1) (fun z => by omega)]
    exact g3
  | succ j =>
    rw [hq1] at g1
    have := hps _ _ g1
    rw [g6 _ (fun z => by omega) (fun _ => h3 (by omega))]
    exact g3
theorem y_axr_same {wr : yWr} {ax ax' : List yA} (hf : y_axr tb ρ b cw ax) (hk : ∀ q ∈ ax', q ∈ ax ∧ (q.1 = 0 → q.2.1 ∉ wr.2.1) ∧ (1 ≤ q.1 → wr.2.2 = false)) (hps : ∀ i p, y_ps ρ i = some p → tb.1.length ≤ p) (hs : y_same tb.1.length wr cw cw') : y_axr tb ρ b cw' ax' := by
  intro q hq
  obtain ⟨h1, h2, h3⟩ := hk q hq
  obtain ⟨g0, p, a, cA, len, f, x, g1, g2, g3, gx, g4⟩ := hf q h1
  refine ⟨g0, p, a, cA, len, f, x, g1, ?_, g3, gx, g4⟩
  cases hq1 : q.1 with
  | zero =>
    have := g0 hq1
    rw [hq1] at g1
    have e : q.2.1 = p := Option.some.inj g1
    exact hs.2.2 p _ g2 ⟨_, rfl⟩ (fun _ => by rw [← e]; exact h2 hq1) (fun z => by omega)
  | succ j =>
    rw [hq1] at g1
    have := hps _ _ g1
    exact hs.2.2 p _ g2 ⟨_, rfl⟩ (fun z => by omega) (fun _ => h3 (by omega))
theorem y_same_le {n0 : Nat} {wr wr' : yWr} (h1 : ∀ q ∈ wr'.1, q ∈ wr.1) (h2 : ∀ q ∈ wr'.2.1, q ∈ wr.2.1) (h3 : wr'.2.2 = true → wr.2.2 = true) (h : y_same n0 wr' cw cw') : y_same n0 wr cw cw' := by
  have h4 : wr.2.2 = false → wr'.2.2 = false := fun z => by
    cases hw : wr'.2.2 with
    | false => rfl
    | true => rw [h3 hw] at z; cases z
  refine ⟨h.1, fun p a ci vs q => ?_, fun p e q hx q1 q2 => h.2.2 p e q hx (fun z w => q1 z (h2 _ w)) (fun z => h4 (q2 z))⟩
  obtain ⟨vs', g1, g2⟩ := h.2.1 p a ci vs q
  exact ⟨vs', g1, fun f q1 q2 => g2 f (fun z w => q1 z (h1 _ w)) (fun z => h4 (q2 z))⟩
theorem y_wf_ok {i f : Nat} (h : y_wf tb 0 i f = true) : (i, f) ∈ tb.2.2.2.2.2.1 := by
  have : ∀ l : List (Nat × Nat), y_fl (fun q r => or (and (Nat.beq q.1 i) (Nat.beq q.2 f)) r) false l = true → (i, f) ∈ l := by
    intro l
    induction l with
    | nil => intro z; cases z
    | cons w l ih =>
      intro z
      have z : or (and (Nat.beq w.1 i) (Nat.beq w.2 f)) (y_fl (fun q r => or (and (Nat.beq q.1 i) (Nat.beq q.2 f)) r) false l) = true := z
      rw [Bool.or_eq_true] at z
      rcases z with z | z
      · obtain ⟨z1, z2⟩ := z_and z
        rw [← Nat.eq_of_beq_eq_true z1, ← Nat.eq_of_beq_eq_true z2]
        exact List.mem_cons_self
      · exact List.mem_cons_of_mem _ (ih z)
  exact this _ h
theorem y_wle_ok {wr : yWr} (h : y_wle tb wr = true) : (∀ q ∈ wr.1, q ∈ tb.2.2.2.2.2.1) ∧ (∀ q ∈ wr.2.1, q ∈ tb.2.2.2.2.2.2.1) ∧ (wr.2.2 = true → tb.2.2.2.2.2.2.2 = true) := by
  obtain ⟨h1, h2⟩ := z_and h
  obtain ⟨h3, h4⟩ := z_and h1
  refine ⟨?_, ?_, fun z => ?_⟩
  · have : ∀ l : List (Nat × Nat), y_fl (fun q r => and (y_wf tb 0 q.1 q.2) r) true l = true → ∀ q ∈ l, q ∈ tb.2.2.2.2.2.1 := by
      intro l
      induction l with
      | nil => intro _ q hq; cases hq
      | cons w l ih =>
        intro z q hq
        obtain ⟨z1, z2⟩ := z_and (show and (y_wf tb 0 w.1 w.2) (y_fl (fun q r => and (y_wf tb 0 q.1 q.2) r) true l) = true from z)
        rcases List.mem_cons.mp hq with rfl | hq
        · exact y_wf_ok z1
        · exact ih z2 q hq
    exact this _ h3
  · have : ∀ l : List Nat, y_fl (fun q r => and (y_wa tb 0 q) r) true l = true → ∀ q ∈ l, q ∈ tb.2.2.2.2.2.2.1 := by
      intro l
      induction l with
      | nil => intro _ q hq; cases hq
      | cons w l ih =>
        intro z q hq
        obtain ⟨z1, z2⟩ := z_and (show and (y_wa tb 0 w) (y_fl (fun q r => and (y_wa tb 0 q) r) true l) = true from z)
        rcases List.mem_cons.mp hq with rfl | hq
        · exact y_mem_ok z1
        · exact ih z2 q hq
    exact this _ h4
  · rw [z] at h2
    exact h2
theorem y_pre_ok {fx : List yF} {ps : yPre} (h : y_pre tb env fx ps = true) (he : y_erel (y_sg ρ) env) (hf : y_fxr tb ρ b cw fx) : y_facts tb.1.length cw ps := by
  induction ps with
  | nil => exact fun q hq => by cases hq
  | cons q ps ih =>
    obtain ⟨h1, h2⟩ := z_and (show and (y_ff fx 0 q.1 q.2.1 (fun v => y_dm env v fun D => y_sub D q.2.2) false) (y_pre tb env fx ps) = true from h)
    rcases y_ff_ok h1 hf with ⟨v, p, a, ci, vs, w, g0, g1, g2, g3, g4, g5⟩ | z
    · have e : q.1 = p := Option.some.inj g1
      have hI : y_isI v = true := by
        cases v with
        | inl u => rfl
        | inr r =>
          cases r with
          | inl i => rfl
          | inr _ => cases g5
      obtain ⟨x, hx, hi⟩ := y_isI_ok hI g4
      obtain ⟨D, d1, d2⟩ := y_dm_ok g5 he hi
      intro q' hq'
      rcases List.mem_cons.mp hq' with rfl | hq'
      · exact ⟨g0 rfl, a, ci, vs, x, by rw [e]; exact g2, by rw [← hx]; exact g3, y_sub_ok d2 d1⟩
      · exact ih h2 q' hq'
    · cases z
theorem y_post_ok : ∀ {ps : yPre} {n : Nat} {env : yEnv} {fx : List yF} {k : Nat → yEnv → List yF → Bool} {ρ : yRo}, y_post ps n env fx k = true → y_facts tb.1.length cw ps → (y_sg ρ).length = n → (∀ i, n ≤ i → y_ps ρ i = none) → (∀ i p, y_ps ρ i = some p → tb.1.length ≤ p) → y_erel (y_sg ρ) env → y_fxr tb ρ b cw fx → ∃ ρ' n' env' fx', y_rle ρ ρ' ∧ y_ad ρ' = y_ad ρ ∧ y_tg ρ' = y_tg ρ ∧ (y_sg ρ').length = n' ∧ ((∀ i, n' ≤ i → y_ps ρ' i = none) ∧ ∀ i p, y_ps ρ' i = some p → tb.1.length ≤ p) ∧ y_erel (y_sg ρ') env' ∧ y_fxr tb ρ' b cw fx' ∧ k n' env' fx' = true
  | [], n, env, fx, k, ρ, h, _, hn, hp, h0, he, hf => ⟨ρ, n, env, fx, y_rle_refl ρ, rfl, rfl, hn, ⟨hp, h0⟩, he, hf, h⟩
  | q :: ps, n, env, fx, k, ρ, h, hfa, hn, hp, h0, he, hf => by
    have h : z_frc (n + 1) (fun n' => y_post ps n' ((n, q.2.2) :: env) ((0, q.1, q.2.1, y_sy n) :: fx) k) = true := h
    rw [z_frc_eq] at h
    obtain ⟨f0, a, ci, vs, x, f1, f2, f3⟩ := hfa q List.mem_cons_self
    obtain ⟨ρ', g1, g2, g3, g4, g5, g6, g7⟩ := y_new hn hp h0 x none (fun p q => by cases q)
    obtain ⟨ρ'', n', env', fx', k1, k2, k3, k4, k5, k6, k7, k8⟩ := y_post_ok (ρ := ρ') h (fun q' hq' => hfa q' (List.mem_cons_of_mem _ hq')) g4 g5.1 g5.2 (y_erel_cons (y_erel_mono g1.1 he) g6 f3) (fun q' hq' => by
      rcases List.mem_cons.mp hq' with rfl | hq'
      · exact ⟨fun _ => f0, q.1, a, ci, vs, .int x, rfl, f1, f2, ⟨x, g6, rfl⟩⟩
      · exact y_fxr_mono g1 hf q' hq')
    exact ⟨ρ'', n', env', fx', y_rle_trans g1 k1, k2.trans g2, k3.trans g3, k4, k5, k6, k7, k8⟩

-- places
theorem y_bd_ok {sg : List Int32} {rl : List yR} {env : yEnv} {a b : yV} {k : yD → Bool} {x y : Int32} (h : y_bd rl env a b k = true) (hr : y_rrel sg rl) (he : y_erel sg env) (hx : y_gi sg a x) (hy : y_gi sg b y) : ∃ D, y_in D (z_b (x - y)) ∧ k D = true := by
  rcases y_bool h with ⟨hc, h⟩ | ⟨_, h⟩
  · rw [← y_eqv_ok hc] at hy
    have e := y_gi_fun hx hy
    refine ⟨_, ?_, h⟩
    rw [← e, Int32.sub_self]
    exact y_in_iv (by decide) (by decide)
  · have gen : ∀ (l : List yR), (∀ q ∈ l, q ∈ rl) → y_fl (fun q r => cond (and (Nat.beq q.1 1) (and (y_eqv q.2.1 a) (y_eqv q.2.2.1 b))) (y_lk env q.2.2.2 k) (cond (and (Nat.beq q.1 1) (and (y_eqv q.2.1 b) (y_eqv q.2.2.1 a))) (y_lk env q.2.2.2 fun D => y_dop 1 [(2147483648, 2147483648)] D k) (cond (and (Nat.beq q.1 0) (and (y_eqv (y_sy q.2.2.2) a) (y_eqv q.2.1 b))) (y_dm env q.2.2.1 k) r))) (y_dm env a fun Da => y_dm env b fun Db => y_dop 1 Da Db k) l = true → ∃ D, y_in D (z_b (x - y)) ∧ k D = true := by
      intro l
      induction l with
      | nil =>
        intro _ h
        have h : y_dm env a (fun Da => y_dm env b fun Db => y_dop 1 Da Db k) = true := h
        obtain ⟨Da, d1, h⟩ := y_dm_ok h he hx
        obtain ⟨Db, d2, h⟩ := y_dm_ok h he hy
        exact y_dop_ok (op := 1) h d1 d2
      | cons q l ih =>
        intro hm h
        have ih := ih (fun q hq => hm q (List.mem_cons_of_mem _ hq))
        obtain ⟨u, w, g1, g2, g3⟩ := hr q (hm q List.mem_cons_self)
        rcases y_bool (show cond (and (Nat.beq q.1 1) (and (y_eqv q.2.1 a) (y_eqv q.2.2.1 b))) _ _ = true from h) with ⟨hc, h1⟩ | ⟨_, h1⟩
        · obtain ⟨c1, c2⟩ := z_and hc
          obtain ⟨c2, c3⟩ := z_and c2
          rw [Nat.eq_of_beq_eq_true c1] at g3
          rw [y_eqv_ok c2] at g1
          rw [y_eqv_ok c3] at g2
          rw [y_gi_fun g1 hx, y_gi_fun g2 hy] at g3
          exact y_lk_ok h1 he g3
        · rcases y_bool h1 with ⟨hc, h2⟩ | ⟨_, h2⟩
          · obtain ⟨c1, c2⟩ := z_and hc
            obtain ⟨c2, c3⟩ := z_and c2
            rw [Nat.eq_of_beq_eq_true c1] at g3
            rw [y_eqv_ok c2] at g1
            rw [y_eqv_ok c3] at g2
            rw [y_gi_fun g1 hy, y_gi_fun g2 hx] at g3
            obtain ⟨D, d1, d2⟩ := y_lk_ok h2 he g3
            have z0 : y_in [(2147483648, 2147483648)] (z_b 0) := y_in_iv (by decide) (by decide)
            obtain ⟨E, e1, e2⟩ := y_dop_ok (op := 1) d2 z0 d1
            refine ⟨E, ?_, e2⟩
            have e3 : y_op 1 0 (y_op 1 y x) = x - y := by
              show (0 : Int32) - (y - x) = x - y
              rw [Int32.sub_eq_add_neg, Int32.zero_add, Int32.neg_sub]
            rw [← e3]
            exact e1
          · rcases y_bool h2 with ⟨hc, h3⟩ | ⟨_, h3⟩
            · obtain ⟨c1, c2⟩ := z_and hc
              obtain ⟨c2, c3⟩ := z_and c2
              rw [Nat.eq_of_beq_eq_true c1] at g3
              rw [← y_eqv_ok c2] at hx
              rw [y_eqv_ok c3] at g1
              have e1 := y_gi_fun (a := y_sy q.2.2.2) hx g3
              have e2 := y_gi_fun g1 hy
              obtain ⟨D, d1, d2⟩ := y_dm_ok h3 he g2
              refine ⟨D, ?_, d2⟩
              have e3 : x - y = w := by
                rw [e1, ← e2]
                show u + w - u = w
                rw [Int32.add_comm, Int32.add_sub_cancel]
              rw [e3]
              exact d1
            · exact ih h3
    exact gen rl (fun _ q => q) h
theorem y_wlk_ok {sg : List Int32} {rl : List yR} {env : yEnv} {b : yV} {k : yD → Bool} {y : Int32} (hr : y_rrel sg rl) (he : y_erel sg env) (hy : y_gi sg b y) : ∀ (fu : Nat) {a : yV} {acc : yD} {x z : Int32}, y_wlk rl env b k fu a acc = true → y_gi sg a x → y_in acc (z_b z) → ∃ D, y_in D (z_b (z + (x - y))) ∧ k D = true
  | 0, _, _, _, _, h, _, _ => by cases h
  | fu + 1, a, acc, x, z, h, hx, hz => by
    rcases y_bool (show cond (y_eqv a b) (k acc) _ = true from h) with ⟨hc, h⟩ | ⟨_, h⟩
    · rw [← y_eqv_ok hc] at hy
      have e := y_gi_fun hx hy
      subst e
      rw [Int32.sub_self, Int32.add_zero]
      exact ⟨acc, hz, h⟩
    · have gen : ∀ (l : List yR), (∀ q ∈ l, q ∈ rl) → y_fl (fun (q : yR) r => cond (and (Nat.beq q.1 1) (y_eqv q.2.1 a)) (y_lk env q.2.2.2 fun D => y_dop 0 acc D fun acc => y_wlk rl env b k fu q.2.2.1 acc) r) false l = true → ∃ D, y_in D (z_b (z + (x - y))) ∧ k D = true := by
        intro l
        induction l with
        | nil => intro _ h; cases h
        | cons q l ih =>
          intro hm h
          rcases y_bool (show cond (and (Nat.beq q.1 1) (y_eqv q.2.1 a)) _ _ = true from h) with ⟨hc, h1⟩ | ⟨_, h1⟩
          · obtain ⟨c1, c2⟩ := z_and hc
            obtain ⟨u, w, g1, g2, g3⟩ := hr q (hm q List.mem_cons_self)
            rw [Nat.eq_of_beq_eq_true c1] at g3
            rw [y_eqv_ok c2] at g1
            have e := y_gi_fun g1 hx
            subst e
            obtain ⟨D, d1, h2⟩ := y_lk_ok h1 he g3
            obtain ⟨E, e1, h3⟩ := y_dop_ok (op := 0) (x := z) h2 hz d1
            obtain ⟨D', f1, f2⟩ := y_wlk_ok hr he hy fu h3 g2 e1
            refine ⟨D', ?_, f2⟩
            have e5 : y_op 0 z (y_op 1 u w) + (w - y) = z + (u - y) := by
              show z + (u - w) + (w - y) = z + (u - y)
              rw [Int32.sub_eq_add_neg, Int32.sub_eq_add_neg, Int32.sub_eq_add_neg, show z + (u + -w) + (w + -y) = z + (u + -y) + (w + -w) from by ac_rfl, Int32.add_right_neg, Int32.add_zero]
            rw [← e5]
            exact f1
          · exact ih (fun q hq => hm q (List.mem_cons_of_mem _ hq)) h1
      exact gen rl (fun _ q => q) h
theorem y_df_ok {sg : List Int32} {rl : List yR} {env : yEnv} {a b : yV} {k : yD → Bool} {x y : Int32} (h : y_df rl env a b k = true) (hr : y_rrel sg rl) (he : y_erel sg env) (hx : y_gi sg a x) (hy : y_gi sg b y) : ∃ D, y_in D (z_b (x - y)) ∧ k D = true := by
  rcases Bool.or_eq_true_iff.mp h with h | h
  · rcases Bool.or_eq_true_iff.mp h with h | h
    · obtain ⟨D, d1, d2⟩ := y_wlk_ok hr he hy 16 h hx (z := 0) (y_in_iv (by decide) (by decide))
      rw [Int32.zero_add] at d1
      exact ⟨D, d1, d2⟩
    rcases Bool.or_eq_true_iff.mp h with h | h
    · exact y_bd_ok h hr he hx hy
    · obtain ⟨a', ha, h⟩ := y_rs_ok h he hx
      obtain ⟨b', hb, h⟩ := y_rs_ok h he hy
      exact y_bd_ok h hr he ha hb
  · obtain ⟨a', oa, x', hx', ex, h⟩ := y_nrm_ok hr 64 h hx
    obtain ⟨b', ob, y', hy', ey, h⟩ := y_nrm_ok hr 64 h hy
    rw [z_frc_eq] at h
    obtain ⟨D, d1, h⟩ := y_bd_ok h hr he hx' hy'
    obtain ⟨E, e1, e2⟩ := y_dop_ok (op := 0) (x := x' - y') (y := nI oa - nI ob) h d1 (y_in_iv (Nat.le_refl _) (Nat.le_refl _))
    refine ⟨E, ?_, e2⟩
    have z0 : ∀ z : Int32, z + nI 0 = z := fun z => Int32.add_zero z
    rw [z0] at ex ey
    have e3 : x - y = y_op 0 (x' - y') (nI oa - nI ob) := by
      rw [ex, ey]
      show x' + nI oa - (y' + nI ob) = x' - y' + (nI oa - nI ob)
      rw [Int32.sub_eq_add_neg, Int32.neg_add, Int32.sub_eq_add_neg, Int32.sub_eq_add_neg, Int32.sub_eq_add_neg]
      ac_rfl
    rw [e3]
    exact e1
theorem y_fa_ok2 {ax : List yA} {i : Nat} {j : yV} {k : yV → Bool} (h : y_fa ax 0 i j k false = true) (hf : y_axr tb ρ b cw ax) : ∃ v a cA len g x, i < tb.1.length ∧ cw[i]? = some (a, .inl (cA, len, .inl g)) ∧ y_gi (y_sg ρ) j x ∧ x.toNatClampNeg + 2147483648 = z_b x ∧ y_g tb ρ b v (.int (g x.toNatClampNeg)) ∧ k v = true := by
  induction ax with
  | nil => cases h
  | cons q ax ih =>
    rcases y_bool (show cond (and (Nat.beq q.1 0) (and (Nat.beq q.2.1 i) (y_eqv q.2.2.1 j))) (k q.2.2.2) (y_fa ax 0 i j k false) = true from h) with ⟨hc, h1⟩ | ⟨_, h1⟩
    · obtain ⟨c1, c2⟩ := z_and hc
      obtain ⟨c2, c3⟩ := z_and c2
      have c1 := Nat.eq_of_beq_eq_true c1
      have c2 := Nat.eq_of_beq_eq_true c2
      obtain ⟨g0, p, a, cA, len, f, x, g1, g2, g3, g4, g5⟩ := hf q List.mem_cons_self
      rw [c1] at g1
      have e : q.2.1 = p := Option.some.inj g1
      rw [y_eqv_ok c3] at g3
      rw [← c2]
      exact ⟨q.2.2.2, a, cA, len, f, x, g0 c1, by rw [e]; exact g2, g3, g4, g5, h1⟩
    · exact ih h1 (fun p hp => hf p (List.mem_cons_of_mem _ hp))
theorem y_pll_ok {ax : List yA} (he : y_erel (y_sg ρ) env) (hf : y_axr tb ρ b cw ax) : ∀ {rows : List Nat} {v : yV} {x : Int32} {k : yV → Bool}, y_pll env ax rows v k = true → y_gi (y_sg ρ) v x → ∃ w y, y_prw tb.1.length cw rows x y ∧ y_gi (y_sg ρ) w y ∧ k w = true
  | [], v, x, k, h, hx => ⟨v, x, rfl, hx, h⟩
  | r :: rs, v, x, k, h, hx => by
    obtain ⟨v', hx', h⟩ := y_rs_ok (show y_rs env v (fun v => y_fa ax 0 r v (fun w => cond (y_isI w) (y_pll env ax rs w k) false) false) = true from h) he hx
    obtain ⟨w, a, cA, len, g, x2, g0, g1, g2, g3, g4, h⟩ := y_fa_ok2 h hf
    have e := y_gi_fun g2 hx'
    subst e
    obtain ⟨hI, h⟩ := z_cond h
    obtain ⟨y, hy, hi⟩ := y_isI_ok hI g4
    cases hy
    obtain ⟨w', y', k1, k2, k3⟩ := y_pll_ok he hf h hi
    exact ⟨w', y', ⟨a, cA, len, g, g0, g1, g3, k1⟩, k2, k3⟩
theorem y_prw_fun {n0 : Nat} {cw : va_W} : ∀ {rows : List Nat} {x y z : Int32}, y_prw n0 cw rows x y → y_prw n0 cw rows x z → y = z
  | [], x, y, z, h1, h2 => Eq.trans h1 (Eq.symm h2)
  | r :: rs, x, y, z, ⟨a, cA, len, f, _, h1, _, h2⟩, ⟨a', cA', len', f', _, h3, _, h4⟩ => by
    rw [h1] at h3
    cases h3
    exact y_prw_fun h2 h4
theorem y_pb_fun {n0 : Nat} {gs : List Int32} {lv : List (Nat × Value)} {cw : va_W} {pl : yPl} {x y : Int32} (h1 : y_pb n0 gs lv cw pl x) (h2 : y_pb n0 gs lv cw pl y) : x = y := by
  obtain ⟨k, a, b, rows⟩ := pl
  match k, h1, h2 with
  | 0, h1, h2 =>
    have h1 : lv.lookup a = some (.int x) := h1
    have h2 : lv.lookup a = some (.int y) := h2
    rw [h1] at h2
    cases h2
    rfl
  | 1, ⟨_, _, _, _, h1, h3⟩, ⟨_, _, _, _, h2, h4⟩ =>
    rw [h1] at h2
    cases h2
    rw [h3] at h4
    cases h4
    rfl
  | 2, h1, h2 => exact Eq.trans h1 (Eq.symm h2)
  | n + 3, h1, h2 =>
    have h1 : gs[a]? = some x := h1
    have h2 : gs[a]? = some y := h2
    rw [h1] at h2
    cases h2
    rfl
theorem y_pls_fun {n0 : Nat} {gs : List Int32} {lv : List (Nat × Value)} {cw : va_W} {pl : yPl} {x y : Int32} (h1 : y_pls n0 gs lv cw pl x) (h2 : y_pls n0 gs lv cw pl y) : x = y := by
  obtain ⟨z, g1, g2⟩ := h1
  obtain ⟨z', g3, g4⟩ := h2
  rw [y_pb_fun g1 g3] at g2
  exact y_prw_fun g2 g4
theorem y_lkl_lk {g : yV → Value → Prop} {i : Nat} {k : yV → Bool} : ∀ {lo : yLo} {lv : List (Nat × Value)}, y_LR g lo lv → y_lkl lo i k = true → ∃ (a : yV) (v : Value), lv.lookup i = some v ∧ g a v ∧ k a = true
  | [], [], _, h => by cases h
  | q :: qs, r :: rs, hs, h => by
    rcases y_bool (show cond (Nat.beq q.1 i) (k q.2) (y_lkl qs i k) = true from h) with ⟨hc, h1⟩ | ⟨hc, h1⟩
    · have := Nat.eq_of_beq_eq_true hc
      obtain ⟨r1, r2⟩ := r
      have e : q.1 = r1 := hs.1.1
      refine ⟨q.2, r2, ?_, hs.1.2, h1⟩
      rw [List.lookup_cons, show (i == r1) = true from by rw [← e, this]; exact beq_self_eq_true i]
    · obtain ⟨a, v, g1, g2, g3⟩ := y_lkl_lk hs.2 h1
      obtain ⟨r1, r2⟩ := r
      have e : q.1 = r1 := hs.1.1
      have hne : r1 ≠ i := fun z => by rw [e, z, Nat.beq_refl] at hc; cases hc
      refine ⟨a, v, ?_, g2, g3⟩
      rw [List.lookup_cons, show (i == r1) = false from by simpa using Ne.symm hne]
      exact g1
  | [], _ :: _, hs, _ => hs.elim
  | _ :: _, [], hs, _ => hs.elim
theorem y_plv_ok {gh : List yV} {gs : List Int32} {lo : yLo} {lv : List (Nat × Value)} {fx : List yF} {ax : List yA} {pl : yPl} {k : yV → Bool} (h : y_plv gh env lo fx ax pl k = true) (hLR : y_LR (y_g tb ρ b) lo lv) (hg : ∀ (i : Nat) (v : yV), gh[i]? = some v → y_isI v = true → ∃ x, gs[i]? = some x ∧ y_gi (y_sg ρ) v x) (he : y_erel (y_sg ρ) env) (hfx : y_fxr tb ρ b cw fx) (hax : y_axr tb ρ b cw ax) : ∃ v x, y_pls tb.1.length gs lv cw pl x ∧ y_gi (y_sg ρ) v x ∧ k v = true := by
  obtain ⟨kd, a, f, rows⟩ := pl
  match kd, h with
  | 0, h =>
    obtain ⟨v, w, g1, g2, h⟩ := y_lkl_lk hLR (show y_lkl lo a (fun v => cond (y_isI v) (y_pll env ax rows v k) false) = true from h)
    obtain ⟨hI, h⟩ := z_cond h
    obtain ⟨x, rfl, hi⟩ := y_isI_ok hI g2
    obtain ⟨w', y', k1, k2, k3⟩ := y_pll_ok he hax h hi
    exact ⟨w', y', ⟨x, g1, k1⟩, k2, k3⟩
  | 1, h =>
    rcases y_ff_ok (show y_ff fx 0 a f (fun v => cond (y_isI v) (y_pll env ax rows v k) false) false = true from h) hfx with ⟨v, p, ad, ci, vs, w, g0, g1, g2, g3, g4, h⟩ | z
    · have e : a = p := Option.some.inj g1
      subst e
      obtain ⟨hI, h⟩ := z_cond h
      obtain ⟨x, rfl, hi⟩ := y_isI_ok hI g4
      obtain ⟨w', y', k1, k2, k3⟩ := y_pll_ok he hax h hi
      exact ⟨w', y', ⟨x, ⟨g0 rfl, ad, ci, vs, g2, g3⟩, k1⟩, k2, k3⟩
    · cases z
  | 2, h =>
    obtain ⟨w', y', k1, k2, k3⟩ := y_pll_ok (x := nI a) he hax (show y_pll env ax rows (.inl a) k = true from h) rfl
    exact ⟨w', y', ⟨nI a, rfl, k1⟩, k2, k3⟩
  | n + 3, h =>
    obtain ⟨v, g1, h⟩ := z_opl_ok (show z_opl gh a (fun v => cond (y_isI v) (y_pll env ax rows v k) false) = true from h)
    obtain ⟨hI, h⟩ := z_cond h
    obtain ⟨x, g2, g3⟩ := hg a v g1 hI
    obtain ⟨w', y', k1, k2, k3⟩ := y_pll_ok he hax h g3
    exact ⟨w', y', ⟨x, g2, k1⟩, k2, k3⟩
theorem y_snc_eq (l : List yV) (v : yV) : y_snc l v = l ++ [v] := by
  induction l with
  | nil => rfl
  | cons a l ih =>
    show a :: y_snc l v = _
    rw [ih]
    rfl
/-- values and their numbers, by places -/
def y_GH (sg : List Int32) (gh : List yV) (gs : List Int32) : Prop := gh.length = gs.length ∧ ∀ (i : Nat) (v : yV), gh[i]? = some v → y_isI v = true → ∃ x, gs[i]? = some x ∧ y_gi sg v x
theorem y_GH_mono {sg sg' : List Int32} (h : y_le sg sg') {gh : List yV} {gs : List Int32} (hg : y_GH sg gh gs) : y_GH sg' gh gs := ⟨hg.1, fun i v q hi => by
  obtain ⟨x, z1, z2⟩ := hg.2 i v q hi
  exact ⟨x, z1, y_gi_mono h z2⟩⟩
theorem y_GH_snoc {sg : List Int32} {gh : List yV} {gs : List Int32} {v : yV} {x : Int32} (hg : y_GH sg gh gs) (hv : y_isI v = true → y_gi sg v x) : y_GH sg (y_snc gh v) (gs ++ [x]) := by
  rw [y_snc_eq]
  refine ⟨by simp [hg.1], fun i w q hi => ?_⟩
  rcases Nat.lt_or_ge i gh.length with hl | hl
  · rw [List.getElem?_append_left hl] at q
    obtain ⟨z, z1, z2⟩ := hg.2 i w q hi
    exact ⟨z, by rw [List.getElem?_append_left (by rw [← hg.1]; exact hl)]; exact z1, z2⟩
  · rw [List.getElem?_append_right hl] at q
    have e : i = gh.length := by
      have := (List.getElem?_eq_some_iff.mp q).1
      simp at this
      omega
    subst e
    simp at q
    subst q
    exact ⟨x, by rw [hg.1, List.getElem?_append_right (Nat.le_refl _)]; simp, hv hi⟩
theorem y_ev2_ok {sg : List Int32} {op : Nat} {v w : yV} {rl : List yR} {k : yV → Bool} {x y : Int32} (h : y_ev2 op v w rl k = true) (hr : y_rrel sg rl) (hx : y_gi sg v x) (hy : y_gi sg w y) : ∃ r, y_gi sg r (y_op op x y) ∧ k r = true := by
  have gen : y_fnd op v w rl (fun d => k (y_sy d)) false = true → ∃ r, y_gi sg r (y_op op x y) ∧ k r = true := fun h => by
    rcases y_fnd_ok h hr hx hy with ⟨d, d1, d2⟩ | z
    · exact ⟨y_sy d, d1, d2⟩
    · cases z
  cases v with
  | inr r => exact gen h
  | inl u =>
    cases w with
    | inr r => exact gen h
    | inl u' =>
      have hx : x = nI u := hx
      have hy : y = nI u' := hy
      have h3 : z_frc (z_un (y_op op (nI u) (nI u'))) (fun u => k (.inl u)) = true := h
      rw [z_frc_eq, ← hx, ← hy] at h3
      exact ⟨.inl (z_un (y_op op x y)), (z_nI_un _).symm, h3⟩
theorem y_entI_ok {lo : yLo} {lv : List (Nat × Value)} {h : yHp} (hLR : y_LR (y_g tb ρ b) lo lv) (he : y_erel (y_sg ρ) env) (hr : y_rrel (y_sg ρ) h.1) (hfx : y_fxr tb ρ b cw h.2.1) (hax : y_axr tb ρ b cw h.2.2.1) : ∀ {is : List yIt} {gh : List yV} {gs : List Int32}, y_entI lo env h is gh = true → y_GH (y_sg ρ) gh gs → y_AI tb.1.length lv cw gs is
  | [], _, _, _, _ => trivial
  | .inl e :: is, gh, gs, hev, hg => by
    obtain ⟨v, x, g1, g2, g3⟩ := y_plv_ok (show y_plv gh env lo h.2.1 h.2.2.1 e.1 (fun v => y_pll env h.2.2.1 [e.2.1] v fun w => and (y_dm env w fun D => y_sub D e.2.2) (y_entI lo env h is (y_snc gh w))) = true from hev) hLR hg.2 he hfx hax
    obtain ⟨w, y, g4, g5, g6⟩ := y_pll_ok he hax g3 g2
    obtain ⟨g6, g7⟩ := z_and g6
    obtain ⟨D, d1, d2⟩ := y_dm_ok g6 he g5
    exact ⟨x, y, g1, g4, y_sub_ok d2 d1, y_entI_ok hLR he hr hfx hax g7 (y_GH_snoc hg fun _ => g5)⟩
  | .inr e :: is, gh, gs, hev, hg => by
    obtain ⟨v, x, g1, g2, g3⟩ := y_plv_ok (show y_plv gh env lo h.2.1 h.2.2.1 e.2.1 (fun v => y_plv gh env lo h.2.1 h.2.2.1 e.2.2.1 fun w => cond (Nat.beq e.1 1) (and (y_df h.1 env v w fun D => y_sub D e.2.2.2) (y_entI lo env h is (y_snc gh y_null))) (y_rs env v fun v => y_rs env w fun w => y_ev2 e.1 v w h.1 fun r => and (y_dm env r fun D => y_sub D e.2.2.2) (y_entI lo env h is (y_snc gh r)))) = true from hev) hLR hg.2 he hfx hax
    obtain ⟨w, y, g4, g5, g6⟩ := y_plv_ok g3 hLR hg.2 he hfx hax
    rcases y_bool g6 with ⟨hc, g7⟩ | ⟨_, g7⟩
    · have hc := Nat.eq_of_beq_eq_true hc
      obtain ⟨g7, g8⟩ := z_and g7
      obtain ⟨D, d1, d2⟩ := y_df_ok g7 hr he g2 g5
      refine ⟨x, y, g1, g4, ?_, y_entI_ok hLR he hr hfx hax g8 (y_GH_snoc hg fun z => by cases z)⟩
      rw [hc]
      exact y_sub_ok d2 d1
    · obtain ⟨v', i1, g7⟩ := y_rs_ok g7 he g2
      obtain ⟨w', i2, g7⟩ := y_rs_ok g7 he g5
      obtain ⟨r, d1, d2⟩ := y_ev2_ok g7 hr i1 i2
      obtain ⟨d2, d3⟩ := z_and d2
      obtain ⟨D, d4, d5⟩ := y_dm_ok d2 he d1
      exact ⟨x, y, g1, g4, y_sub_ok d5 d4, y_entI_ok hLR he hr hfx hax d3 (y_GH_snoc hg fun _ => d1)⟩
theorem y_flall {α : Type} {f : α → Bool} : ∀ {l : List α}, y_fl (fun q r => and (f q) r) true l = true → ∀ q ∈ l, f q = true
  | [], _, _, hq => by cases hq
  | q' :: l, h, q, hq => by
    obtain ⟨h1, h2⟩ := z_and (show and (f q') (y_fl (fun q r => and (f q) r) true l) = true from h)
    rcases List.mem_cons.mp hq with rfl | hq
    · exact h1
    · exact y_flall h2 q hq
theorem y_ent_ok {gh : List yV} {gs : List Int32} {lo : yLo} {lv : List (Nat × Value)} {h : yHp} {an : yAn} (hev : y_ent tb gh an lo env h = true) (hLR : y_LR (y_g tb ρ b) lo lv) (hg : y_GH (y_sg ρ) gh gs) (h0 : ∀ i p, y_ps ρ i = some p → tb.1.length ≤ p) (he : y_erel (y_sg ρ) env) (hr : y_rrel (y_sg ρ) h.1) (hfx : y_fxr tb ρ b cw h.2.1) (hax : y_axr tb ρ b cw h.2.2.1) : y_Ann tb.1.length (y_tv tb (y_ad ρ) (y_tg ρ)) gs lv cw an := by
  obtain ⟨h1, h2⟩ := z_and hev
  obtain ⟨h1, h3⟩ := z_and h1
  refine ⟨?_, y_pre_ok h3 he hfx, y_entI_ok hLR he hr hfx hax h2 hg⟩
  intro q hq
  obtain ⟨a, v, g1, g2, g3⟩ := y_lkl_lk hLR (y_flall (f := fun q : Nat × yT => y_lkl lo q.1 fun v => y_fit q.2 env v) h1 q hq)
  exact ⟨v, g1, y_fit_ok g3 h0 he g2⟩
theorem y_gho_ok {lo : yLo} {lv : List (Nat × Value)} {fx : List yF} {ax : List yA} (hLR : y_LR (y_g tb ρ b) lo lv) (he : y_erel (y_sg ρ) env) (hfx : y_fxr tb ρ b cw fx) (hax : y_axr tb ρ b cw ax) : ∀ {gp : List yPl} {k : List yV → Bool}, y_gho env lo fx ax gp k = true → ∃ gh gs, y_GS (y_pls tb.1.length [] lv cw) gp gs ∧ y_GH (y_sg ρ) gh gs ∧ k gh = true
  | [], k, h => ⟨[], [], trivial, ⟨rfl, fun i v q => by simp at q⟩, h⟩
  | g :: gp, k, h => by
    obtain ⟨v, x, g1, g2, h⟩ := y_plv_ok (gs := []) (show y_plv [] env lo fx ax g (fun v => y_gho env lo fx ax gp fun t => k (v :: t)) = true from h) hLR (fun i v q => by simp at q) he hfx hax
    obtain ⟨gh, gs, k1, k2, k3⟩ := y_gho_ok hLR he hfx hax h
    refine ⟨v :: gh, x :: gs, ⟨g1, k1⟩, ⟨by simp [k2.1], fun i w q hi => ?_⟩, k3⟩
    cases i with
    | zero => cases q; exact ⟨x, rfl, g2⟩
    | succ i => exact k2.2 i w (by simpa using q) hi
theorem y_pls_lk {n0 : Nat} {gs : List Int32} {lv lv2 : List (Nat × Value)} {cw : va_W} {pl : yPl} {x : Int32} (hlk : ∀ (j : Nat) (v : Value), lv.lookup j = some v → lv2.lookup j = some v) (h : y_pls n0 gs lv cw pl x) : y_pls n0 gs lv2 cw pl x := by
  obtain ⟨kd, a, f, rows⟩ := pl
  obtain ⟨z, g1, g2⟩ := h
  refine ⟨z, ?_, g2⟩
  match kd, g1 with
  | 0, g1 => exact hlk _ _ g1
  | 1, g1 => exact g1
  | 2, g1 => exact g1
  | n + 3, g1 => exact g1
theorem y_xr_ok {sg : List Int32} {e : yRel} {v w : yV} {rl : List yR} {x y : Int32} (hx : y_gi sg v x) (hy : y_gi sg w y) (hD : y_in e.2.2.2 (z_b (y_op e.1 x y))) (hr : y_rrel sg rl) : y_rrel sg (y_xr e v w rl) := by
  unfold y_xr
  split
  · rename_i i a b e1 e3
    cases hc : Nat.beq a b with
    | false => exact hr
    | true =>
      have hc := Nat.eq_of_beq_eq_true hc
      intro q hq
      rcases List.mem_cons.mp hq with rfl | hq
      · rw [e1, e3] at hD
        have hD : y_in [(a, b)] (z_b (x - y)) := hD
        subst hc
        have e4 := y_in_pt hD
        refine ⟨y, x - y, hy, ?_, ?_⟩
        · show x - y = nI (z_bu a)
          rw [← e4]
          exact (z_bu_b _).symm
        · show sg[i]? = some (y + (x - y))
          rw [Int32.add_comm, Int32.sub_add_cancel]
          exact hx
      · exact hr q hq
  · exact hr
theorem y_opi_ok {lo : yLo} {lv lv2 : List (Nat × Value)} (hlk : ∀ (j : Nat) (v : Value), lv.lookup j = some v → lv2.lookup j = some v) {fx : List yF} : ∀ {is : List yIt} {gh : List yV} {gs : List Int32} {n : Nat} {env : yEnv} {rl : List yR} {ax : List yA} {k : Nat → yEnv → List yR → List yA → Bool} {ρ : yRo}, y_opi lo fx is gh n env rl ax k = true → y_AI tb.1.length lv2 cw gs is → y_LR (y_g tb ρ b) lo lv → y_GH (y_sg ρ) gh gs → (y_sg ρ).length = n → (∀ i, n ≤ i → y_ps ρ i = none) → (∀ i p, y_ps ρ i = some p → tb.1.length ≤ p) → y_erel (y_sg ρ) env → y_rrel (y_sg ρ) rl → y_fxr tb ρ b cw fx → y_axr tb ρ b cw ax → ∃ ρ' n' env' rl' ax', y_rle ρ ρ' ∧ y_ad ρ' = y_ad ρ ∧ y_tg ρ' = y_tg ρ ∧ (y_sg ρ').length = n' ∧ ((∀ i, n' ≤ i → y_ps ρ' i = none) ∧ ∀ i p, y_ps ρ' i = some p → tb.1.length ≤ p) ∧ y_erel (y_sg ρ') env' ∧ y_rrel (y_sg ρ') rl' ∧ y_axr tb ρ' b cw ax' ∧ k n' env' rl' ax' = true
  | [], gh, gs, n, env, rl, ax, k, ρ, h, _, _, _, hn, hp, h0, he, hr, _, hx => by
    obtain ⟨e1, he1, h1⟩ := y_pr_ok hr (show y_pr rl env (fun env => k n env rl ax) = true from h) he
    exact ⟨ρ, n, e1, rl, ax, y_rle_refl ρ, rfl, rfl, hn, ⟨hp, h0⟩, he1, hr, hx, h1⟩
  | .inl q :: is, gh, gs, n, env, rl, ax, k, ρ, h, hA, hLR, hg, hn, hp, h0, he, hr, hf, hx => by
    obtain ⟨v, x, g1, g2, h⟩ := y_plv_ok (show y_plv gh env lo fx ax q.1 (fun v => y_rs env v fun v => z_frc (n + 1) fun n' => y_opi lo fx is (y_snc gh (y_sy n)) n' ((n, q.2.2) :: env) rl ((0, q.2.1, v, y_sy n) :: ax) k) = true from h) hLR hg.2 he hf hx
    obtain ⟨v', g3, h⟩ := y_rs_ok h he g2
    rw [z_frc_eq] at h
    obtain ⟨x', y, a1, a2, a3, a4⟩ := hA
    rw [← y_pls_fun (y_pls_lk hlk g1) a1] at a2
    obtain ⟨ad, cA, len, f, b1, b2, b3, b4⟩ := a2
    have b4 : y = f x.toNatClampNeg := b4
    obtain ⟨ρ', u1, u2, u3, u4, u5, u6, u7⟩ := y_new hn hp h0 y none (fun p q => by cases q)
    obtain ⟨ρ'', n', env', rl', ax', k1, k2, k3, k4, k5, k6, k6', k7, k8⟩ := y_opi_ok hlk (ρ := ρ') h a4 (y_LR_mono (fun _ _ => y_g_mono u1) hLR) (y_GH_snoc (y_GH_mono u1.1 hg) fun _ => u6) u4 u5.1 u5.2 (y_erel_cons (y_erel_mono u1.1 he) u6 a3) (y_rrel_mono u1.1 hr) (y_fxr_mono u1 hf) (fun q' hq' => by
      rcases List.mem_cons.mp hq' with rfl | hq'
      · exact ⟨fun _ => b1, q.2.1, ad, cA, len, f, x, rfl, b2, y_gi_mono u1.1 g3, b3, ⟨y, u6, by rw [b4]⟩⟩
      · exact y_axr_mono u1 hx q' hq')
    exact ⟨ρ'', n', env', rl', ax', y_rle_trans u1 k1, k2.trans u2, k3.trans u3, k4, k5, k6, k6', k7, k8⟩
  | .inr q :: is, gh, gs, n, env, rl, ax, k, ρ, h, hA, hLR, hg, hn, hp, h0, he, hr, hf, hx => by
    obtain ⟨v, x, g1, g2, h⟩ := y_plv_ok (show y_plv gh env lo fx ax q.2.1 (fun v => y_plv gh env lo fx ax q.2.2.1 fun w => y_rs env v fun v => y_rs env w fun w => z_frc (n + 1) fun n' => y_opi lo fx is (y_snc gh (y_sy n)) n' ((n, q.2.2.2) :: env) (y_xr q v w ((q.1, v, w, n) :: rl)) ax k) = true from h) hLR hg.2 he hf hx
    obtain ⟨w, y, g3, g4, h⟩ := y_plv_ok h hLR hg.2 he hf hx
    obtain ⟨v', i1, h⟩ := y_rs_ok h he g2
    obtain ⟨w', i2, h⟩ := y_rs_ok h he g4
    rw [z_frc_eq] at h
    obtain ⟨x', y', a1, a2, a3, a4⟩ := hA
    rw [← y_pls_fun (y_pls_lk hlk g1) a1, ← y_pls_fun (y_pls_lk hlk g3) a2] at a3 a4
    obtain ⟨ρ', u1, u2, u3, u4, u5, u6, u7⟩ := y_new hn hp h0 (y_op q.1 x y) none (fun p q => by cases q)
    obtain ⟨ρ'', n', env', rl', ax', k1, k2, k3, k4, k5, k6, k6', k7, k8⟩ := y_opi_ok hlk (ρ := ρ') h a4 (y_LR_mono (fun _ _ => y_g_mono u1) hLR) (y_GH_snoc (y_GH_mono u1.1 hg) fun _ => u6) u4 u5.1 u5.2 (y_erel_cons (y_erel_mono u1.1 he) u6 a3) (y_xr_ok (y_gi_mono u1.1 i1) (y_gi_mono u1.1 i2) a3 (fun q' hq' => by
      rcases List.mem_cons.mp hq' with rfl | hq'
      · exact ⟨x, y, y_gi_mono u1.1 i1, y_gi_mono u1.1 i2, u6⟩
      · exact y_rrel_mono u1.1 hr q' hq')) (y_fxr_mono u1 hf) (y_axr_mono u1 hx)
    exact ⟨ρ'', n', env', rl', ax', y_rle_trans u1 k1, k2.trans u2, k3.trans u3, k4, k5, k6, k6', k7, k8⟩
end YH
