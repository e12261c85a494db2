-- a contract: the run from the entry, the runs from the cuts, ranks that fall
abbrev yRk : Type := List (Nat × yPl)
abbrev yCut : Type := Nat × yAn × yRk × List yEnt
noncomputable def y_rkv (gh : List yV) (env : yEnv) (lo : yLo) (fx : List yF) (ax : List yA) (rs : yRk) : (List (Nat × yV) → Bool) → Bool := y_fl (fun q ih k => y_plv gh env lo fx ax q.2 fun v => ih fun t => k ((q.1, v) :: t)) (fun k => k []) rs
/-- a difference that does not wrap -/
noncomputable def y_nwd (rl : List yR) (env : yEnv) (a b : yV) (k : yD → Bool) : Bool := y_dm env a fun Da => y_hull Da fun la ha => y_dm env b fun Db => y_hull Db fun lb hb => cond (and (Nat.ble ha (lb + 2147483647)) (Nat.ble hb (la + 2147483647))) (y_df rl env a b k) false
noncomputable def y_les (rl : List yR) (env : yEnv) (a b : yV) (r : Bool) : Bool := y_nwd rl env b a fun D => or (y_sub D [(2147483649, 4294967295)]) (and (y_sub D [(2147483648, 4294967295)]) r)
/-- the first list is less than the second -/
noncomputable def y_lex (rl : List yR) (env : yEnv) (nw : List (Nat × yV)) : List (Nat × yV) → Bool := y_fl (fun q ih old => match old with
  | [] => false
  | p :: ps => and (Nat.beq q.1 p.1) (cond (Nat.beq q.1 1) (y_les rl env p.2 q.2 (ih ps)) (y_les rl env q.2 p.2 (ih ps)))) (fun _ => false) nw
noncomputable def y_gl (G : List yPl) : Nat → List yV := y_fl (fun _ ih i => y_sy i :: ih (i + 1)) (fun _ => []) G
def y_ger : List yPl → Nat → List yRel
  | [], _ => []
  | g :: G, i => (1, g, (3, i, 0, []), [(2147483648, 2147483648)]) :: y_ger G (i + 1)
noncomputable def y_gop (G : List yPl) : Nat → yEnv → (Nat → yEnv → Bool) → Bool := y_fl (fun _ ih n env k => z_frc (n + 1) fun n' => ih n' ((n, y_top) :: env) k) (fun n env k => k n env) G
noncomputable def y_opl (ls : List (Nat × yT)) : Nat → yEnv → yLo → (Nat → yEnv → yLo → Bool) → Bool := y_fl (fun q ih n env lo k => y_nv q.2 n env fun v n env => ih n env ((q.1, v) :: lo) k) (fun n env lo k => k n env lo) ls
noncomputable def y_run (G : List yPl) (L : List (Nat × yT)) (F : yPre) (is js : List yIt) (k : yLo → Nat → yEnv → yHp → Bool) : Bool := y_gop G 0 [] fun n env => y_opl L n env [] fun n env lo => y_post F n env [] fun n env fx => y_opi lo fx is [] n env [] [] fun n env rl ax => y_opi lo fx js (y_gl G 0) n env rl ax fun n env rl ax => k lo n env (rl, fx, ax, [])
noncomputable def y_stp (tb : yTb) (G : List yPl) (cuts : List yCut) (f : List yR → yEnv → List (Nat × yV) → Bool) : yS := fun pc lo st _ env h => and (and (y_emp st) (y_eml h.2.2.2)) (y_fl (fun κ r => or (and (Nat.beq κ.1 pc) (and (y_ent tb (y_gl G 0) κ.2.1 lo env h) (y_rkv (y_gl G 0) env lo h.2.1 h.2.2.1 κ.2.2.1 fun nw => f h.1 env nw))) r) false cuts)
noncomputable def y_kO (tb : yTb) (gh : List yV) (o : yOut) (env : yEnv) (h : yHp) (r : Option yV) : Bool := match o.1, r with
  | none, none => and (y_pre tb env h.2.1 o.2.1) (y_entI [] env h o.2.2 gh)
  | some ty, some v => and (y_fit ty env v) (and (y_pre tb env h.2.1 o.2.1) (y_entI [(100, v)] env h o.2.2 gh))
  | _, _ => false
noncomputable def y_kK (tb : yTb) (c : yCN) : yK := fun _ env h r => and (y_eml h.2.2.2) (y_fl (fun o q => or (y_kO tb (y_gl c.2.2.1 0) o env h r) q) false c.2.2.2.1)
noncomputable def y_runE (hn : yHn) (tb : yTb) (fu : Nat) (c : yCN) (cuts : List yCut) : Bool := y_run c.2.2.1 c.2.1.1 c.2.1.2.1 c.2.1.2.2 ((y_ger c.2.2.1 0).map .inr) fun lo n env h => y_ev hn tb fu (y_stp tb c.2.2.1 cuts fun _ _ _ => true) c.1 (y_cd c.1) 0 lo [] n env h (y_kK tb c)
noncomputable def y_runC (hn : yHn) (tb : yTb) (fu : Nat) (c : yCN) (cuts : List yCut) (κ : yCut) : Bool := y_run c.2.2.1 κ.2.1.1 κ.2.1.2.1 [] κ.2.1.2.2 fun lo n env h => y_rkv (y_gl c.2.2.1 0) env lo h.2.1 h.2.2.1 κ.2.2.1 fun r0 => y_ev hn tb fu (y_stp tb c.2.2.1 cuts fun rl env nw => y_lex rl env nw r0) c.1 κ.2.2.2 κ.1 lo [] n env h (y_kK tb c)
-- ranks
def y_m (d : Nat) (x : Int32) : Nat := if d = 1 then 4294967295 - z_b x else z_b x
def y_RK (n0 : Nat) (gs : List Int32) (lv : List (Nat × Value)) (cw : va_W) : yRk → List Nat → Prop
  | [], [] => True
  | q :: rs, m :: ms => (∃ x, y_pls n0 gs lv cw q.2 x ∧ m = y_m q.1 x) ∧ y_RK n0 gs lv cw rs ms
  | _, _ => False
def y_enc : List Nat → Nat
  | [] => 0
  | m :: ms => m * 4294967296 ^ ms.length + y_enc ms
theorem y_m_lt (d : Nat) (x : Int32) : y_m d x < 4294967296 := by
  have := y_b_lt x
  unfold y_m
  split <;> omega
theorem y_enc_lt : ∀ (ms : List Nat), (∀ m ∈ ms, m < 4294967296) → y_enc ms < 4294967296 ^ ms.length
  | [], _ => Nat.one_pos
  | m :: ms, h => by
    have h1 := y_enc_lt ms (fun q hq => h q (List.mem_cons_of_mem _ hq))
    have h2 := h m List.mem_cons_self
    show m * 4294967296 ^ ms.length + y_enc ms < 4294967296 ^ (ms.length + 1)
    rw [Nat.pow_succ]
    have h3 : (m + 1) * 4294967296 ^ ms.length ≤ 4294967296 * 4294967296 ^ ms.length := Nat.mul_le_mul_right _ (by omega)
    rw [Nat.add_mul, Nat.one_mul] at h3
    rw [Nat.mul_comm (4294967296 ^ ms.length)]
    omega
theorem y_enc_s {m m' : Nat} {ms ms' : List Nat} (hl : ms.length = ms'.length) (hb : ∀ q ∈ ms, q < 4294967296) (h : m < m') : y_enc (m :: ms) < y_enc (m' :: ms') := by
  have h1 := y_enc_lt ms hb
  show m * 4294967296 ^ ms.length + y_enc ms < m' * 4294967296 ^ ms'.length + y_enc ms'
  rw [hl] at h1 ⊢
  have h3 : (m + 1) * 4294967296 ^ ms'.length ≤ m' * 4294967296 ^ ms'.length := Nat.mul_le_mul_right _ (by omega)
  rw [Nat.add_mul, Nat.one_mul] at h3
  omega
theorem y_enc_e {m m' : Nat} {ms ms' : List Nat} (hl : ms.length = ms'.length) (h : m ≤ m') (h2 : y_enc ms < y_enc ms') : y_enc (m :: ms) < y_enc (m' :: ms') := by
  show m * 4294967296 ^ ms.length + y_enc ms < m' * 4294967296 ^ ms'.length + y_enc ms'
  rw [hl]
  have h3 : m * 4294967296 ^ ms'.length ≤ m' * 4294967296 ^ ms'.length := Nat.mul_le_mul_right _ h
  omega
theorem y_RK_b {n0 : Nat} {gs : List Int32} {lv : List (Nat × Value)} {cw : va_W} : ∀ {rs : yRk} {ms : List Nat}, y_RK n0 gs lv cw rs ms → ms.length = rs.length ∧ ∀ q ∈ ms, q < 4294967296
  | [], [], _ => ⟨rfl, fun q hq => by cases hq⟩
  | q :: rs, m :: ms, ⟨⟨x, _, h2⟩, h3⟩ => by
    obtain ⟨a1, a2⟩ := y_RK_b h3
    refine ⟨by simp [a1], fun q' hq' => ?_⟩
    rcases List.mem_cons.mp hq' with rfl | hq'
    · rw [h2]; exact y_m_lt _ _
    · exact a2 q' hq'
  | [], _ :: _, h => h.elim
  | _ :: _, [], h => h.elim
/-- a list of values has these numbers -/
def y_VM (sg : List Int32) : List (Nat × yV) → List Nat → Prop
  | [], [] => True
  | q :: rs, m :: ms => (∃ x, y_gi sg q.2 x ∧ m = y_m q.1 x) ∧ y_VM sg rs ms
  | _, _ => False
theorem y_VM_mono {sg sg' : List Int32} (h : y_le sg sg') : ∀ {rs : List (Nat × yV)} {ms : List Nat}, y_VM sg rs ms → y_VM sg' rs ms
  | [], [], _ => trivial
  | _ :: _, _ :: _, ⟨⟨x, h1, h2⟩, h3⟩ => ⟨⟨x, y_gi_mono h h1, h2⟩, y_VM_mono h h3⟩
  | [], _ :: _, h => h.elim
  | _ :: _, [], h => h.elim
theorem y_nwd_ok {sg : List Int32} {rl : List yR} {env : yEnv} {a b : yV} {k : yD → Bool} {x y : Int32} (h : y_nwd rl env a b k = true) (hr : y_rrel sg rl) (he : y_erel sg env) (hx : y_gi sg a x) (hy : y_gi sg b y) : ∃ D, y_in D (z_b (x - y)) ∧ k D = true ∧ (z_b (x - y) : Int) = z_b x - z_b y + 2147483648 := by
  obtain ⟨Da, d1, h⟩ := y_dm_ok h he hx
  have h := y_hull_ok h
  obtain ⟨Db, d2, h⟩ := y_dm_ok h he hy
  have h := y_hull_ok h
  obtain ⟨hc, h⟩ := z_cond h
  obtain ⟨c1, c2⟩ := z_and hc
  have c1 := z_le_of c1
  have c2 := z_le_of c2
  have m1 := y_min_le d1
  have m2 := y_le_max d1
  have m3 := y_min_le d2
  have m4 := y_le_max d2
  obtain ⟨D, e1, e2⟩ := y_df_ok h hr he hx hy
  refine ⟨D, e1, e2, ?_⟩
  have i1 := z_b_int x
  have i2 := z_b_int y
  have i3 := z_b_int (x - y)
  have e : (x - y).toInt = x.toInt - y.toInt := Jvm.Kit.i32_sub (by omega) (by omega)
  omega
theorem y_les_ok {sg : List Int32} {rl : List yR} {env : yEnv} {a b : yV} {r : Bool} {x y : Int32} (h : y_les rl env a b r = true) (hr : y_rrel sg rl) (he : y_erel sg env) (hx : y_gi sg a x) (hy : y_gi sg b y) : z_b x < z_b y ∨ (z_b x ≤ z_b y ∧ r = true) := by
  obtain ⟨D, d1, d2, d3⟩ := y_nwd_ok h hr he hy hx
  rcases Bool.or_eq_true_iff.mp d2 with h | h
  · rcases y_in_cons.mp (y_sub_ok h d1) with q | q
    · have := q.1
      dsimp only at this
      exact Or.inl (by omega)
    · exact absurd q y_in_nil
  · obtain ⟨h, h2⟩ := z_and h
    rcases y_in_cons.mp (y_sub_ok h d1) with q | q
    · have := q.1
      dsimp only at this
      exact Or.inr ⟨by omega, h2⟩
    · exact absurd q y_in_nil
theorem y_lex_ok {sg : List Int32} {rl : List yR} {env : yEnv} (hr : y_rrel sg rl) (he : y_erel sg env) : ∀ {nw old : List (Nat × yV)} {ms ms' : List Nat}, y_lex rl env nw old = true → y_VM sg nw ms → y_VM sg old ms' → ms.length = ms'.length → (∀ q ∈ ms, q < 4294967296) → y_enc ms < y_enc ms'
  | [], _, _, _, h, _, _, _, _ => by cases h
  | _ :: _, [], _, _, h, _, _, _, _ => by cases h
  | q :: nw, p :: old, m :: ms, m' :: ms', h, ⟨⟨x, x1, x2⟩, x3⟩, ⟨⟨y, y1, y2⟩, y3⟩, hl, hb => by
    obtain ⟨h1, h2⟩ := z_and (show and (Nat.beq q.1 p.1) (cond (Nat.beq q.1 1) (y_les rl env p.2 q.2 (y_lex rl env nw old)) (y_les rl env q.2 p.2 (y_lex rl env nw old))) = true from h)
    have h1 := Nat.eq_of_beq_eq_true h1
    have hl' : ms.length = ms'.length := by simpa using hl
    have hb' : ∀ q ∈ ms, q < 4294967296 := fun q hq => hb q (List.mem_cons_of_mem _ hq)
    have key : m < m' ∨ (m ≤ m' ∧ y_lex rl env nw old = true) := by
      have b1 := y_b_lt x
      have b2 := y_b_lt y
      rcases y_bool h2 with ⟨hc, h3⟩ | ⟨hc, h3⟩
      · have hc := Nat.eq_of_beq_eq_true hc
        have e1 : m = 4294967295 - z_b x := by rw [x2]; unfold y_m; rw [if_pos hc]
        have e2 : m' = 4294967295 - z_b y := by rw [y2]; unfold y_m; rw [← h1, if_pos hc]
        rcases y_les_ok h3 hr he y1 x1 with g | ⟨g1, g2⟩
        · exact Or.inl (by omega)
        · exact Or.inr ⟨by omega, g2⟩
      · have hc : q.1 ≠ 1 := fun z => by rw [z] at hc; cases hc
        have e1 : m = z_b x := by rw [x2]; unfold y_m; rw [if_neg hc]
        have e2 : m' = z_b y := by rw [y2]; unfold y_m; rw [← h1, if_neg hc]
        rcases y_les_ok h3 hr he x1 y1 with g | ⟨g1, g2⟩
        · exact Or.inl (by omega)
        · exact Or.inr ⟨by omega, g2⟩
    rcases key with g | ⟨g1, g2⟩
    · exact y_enc_s hl' hb' g
    · exact y_enc_e hl' g1 (y_lex_ok hr he g2 x3 y3 hl' hb')
section YK
variable {tb : yTb} {ρ : yRo} {b : Nat → Nat} {cw : va_W} {env : yEnv}
theorem y_rkv_ok {gh : List yV} {gs : List Int32} {lo : yLo} {lv : List (Nat × Value)} {fx : List yF} {ax : List yA} (hLR : y_LR (y_g tb ρ b) lo lv) (hg : ∀ (i : Nat) (v : yV), gh[i]? = some v → y_isI v = true → ∃ x, gs[i]? = some x ∧ y_gi (y_sg ρ) v x) (he : y_erel (y_sg ρ) env) (hfx : y_fxr tb ρ b cw fx) (hax : y_axr tb ρ b cw ax) : ∀ {rs : yRk} {k : List (Nat × yV) → Bool}, y_rkv gh env lo fx ax rs k = true → ∃ vs ms, y_VM (y_sg ρ) vs ms ∧ y_RK tb.1.length gs lv cw rs ms ∧ k vs = true
  | [], k, h => ⟨[], [], trivial, trivial, h⟩
  | q :: rs, k, h => by
    obtain ⟨v, x, g1, g2, h⟩ := y_plv_ok (show y_plv gh env lo fx ax q.2 (fun v => y_rkv gh env lo fx ax rs fun t => k ((q.1, v) :: t)) = true from h) hLR hg he hfx hax
    obtain ⟨vs, ms, k1, k2, k3⟩ := y_rkv_ok hLR hg he hfx hax h
    exact ⟨(q.1, v) :: vs, y_m q.1 x :: ms, ⟨⟨x, g2, rfl⟩, k1⟩, ⟨⟨x, g1, rfl⟩, k2⟩, k3⟩
theorem y_RK_fun {n0 : Nat} {gs : List Int32} {lv lv2 : List (Nat × Value)} {cw : va_W} (hlk : ∀ (j : Nat) (v : Value), lv.lookup j = some v → lv2.lookup j = some v) : ∀ {rs : yRk} {ms ms' : List Nat}, y_RK n0 gs lv cw rs ms → y_RK n0 gs lv2 cw rs ms' → ms = ms'
  | [], [], [], _, _ => rfl
  | q :: rs, m :: ms, m' :: ms', ⟨⟨x, h1, h2⟩, h3⟩, ⟨⟨y, h4, h5⟩, h6⟩ => by
    rw [y_RK_fun hlk h3 h6, h2, h5, y_pls_fun (y_pls_lk hlk h1) h4]
  | [], [], _ :: _, _, h => h.elim
  | [], _ :: _, _, h, _ => h.elim
  | _ :: _, [], _, h, _ => h.elim
  | _ :: _, _ :: _, [], _, h => h.elim
-- taking in what is said
theorem y_gl_get : ∀ (G : List yPl) (i k : Nat) (v : yV), (y_gl G i)[k]? = some v → k < G.length ∧ v = y_sy (i + k)
  | [], i, k, v, h => by cases h
  | g :: G, i, k, v, h => by
    have h : (y_sy i :: y_gl G (i + 1))[k]? = some v := h
    cases k with
    | zero =>
      cases h
      exact ⟨Nat.zero_lt_succ _, rfl⟩
    | succ k =>
      obtain ⟨h1, h2⟩ := y_gl_get G (i + 1) k v (by simpa using h)
      exact ⟨Nat.succ_lt_succ h1, by rw [h2, show i + 1 + k = i + (k + 1) from by omega]⟩
theorem y_GS_len {f : yPl → Int32 → Prop} : ∀ {G : List yPl} {gs : List Int32}, y_GS f G gs → gs.length = G.length
  | [], [], _ => rfl
  | _ :: _, _ :: _, h => by simp [y_GS_len h.2]
  | [], _ :: _, h => h.elim
  | _ :: _, [], h => h.elim
theorem y_gop_ok : ∀ {G : List yPl} {gs : List Int32} {n : Nat} {env : yEnv} {k : Nat → yEnv → Bool} {ρ : yRo}, y_gop G n env k = true → gs.length = G.length → (y_sg ρ).length = n → (∀ i, n ≤ i → y_ps ρ i = none) → (∀ i p, y_ps ρ i = some p → tb.1.length ≤ p) → y_erel (y_sg ρ) env → ∃ ρ' n' env', y_rle ρ ρ' ∧ y_ad ρ' = y_ad ρ ∧ y_tg ρ' = y_tg ρ ∧ (y_sg ρ').length = n' ∧ ((∀ i, n' ≤ i → y_ps ρ' i = none) ∧ ∀ i p, y_ps ρ' i = some p → tb.1.length ≤ p) ∧ y_erel (y_sg ρ') env' ∧ (∀ (i : Nat) (x : Int32), gs[i]? = some x → (y_sg ρ')[n + i]? = some x) ∧ k n' env' = true
  | [], [], n, env, k, ρ, h, _, hn, hp, h0, he => ⟨ρ, n, env, y_rle_refl ρ, rfl, rfl, hn, ⟨hp, h0⟩, he, fun i x q => by simp at q, h⟩
  | g :: G, x :: gs, n, env, k, ρ, h, hl, hn, hp, h0, he => by
    have h : z_frc (n + 1) (fun n' => y_gop G n' ((n, y_top) :: env) k) = true := h
    rw [z_frc_eq] at h
    obtain ⟨ρ', u1, u2, u3, u4, u5, u6, u7⟩ := y_new hn hp h0 x none (fun p q => by cases q)
    obtain ⟨ρ'', n', env', k1, k2, k3, k4, k5, k6, k7, k8⟩ := y_gop_ok (ρ := ρ') (gs := gs) h (by simpa using hl) u4 u5.1 u5.2 (y_erel_cons (y_erel_mono u1.1 he) u6 (y_in_top _))
    refine ⟨ρ'', n', env', y_rle_trans u1 k1, k2.trans u2, k3.trans u3, k4, k5, k6, fun i z q => ?_, k8⟩
    cases i with
    | zero =>
      cases q
      exact k1.1 _ _ u6
    | succ i =>
      have := k7 i z (by simpa using q)
      rw [show n + (i + 1) = n + 1 + i from by omega]
      exact this
  | [], _ :: _, _, _, _, _, _, hl, _, _, _, _ => by cases hl
  | _ :: _, [], _, _, _, _, _, hl, _, _, _, _ => by cases hl
theorem y_opl_ok {lv2 : List (Nat × Value)} : ∀ {ls : List (Nat × yT)} {n : Nat} {env : yEnv} {lo : yLo} {lv : List (Nat × Value)} {k : Nat → yEnv → yLo → Bool} {ρ : yRo}, y_opl ls n env lo k = true → (∀ q ∈ ls, ∃ v, lv2.lookup q.1 = some v ∧ y_tv tb (y_ad ρ) (y_tg ρ) q.2 v) → y_LR (y_g tb ρ b) lo lv → (∀ q ∈ lv, lv2.lookup q.1 = some q.2) → (y_sg ρ).length = n → (∀ i, n ≤ i → y_ps ρ i = none) → (∀ i p, y_ps ρ i = some p → tb.1.length ≤ p) → y_erel (y_sg ρ) env → ∃ ρ' n' env' lo' lv', y_rle ρ ρ' ∧ y_ad ρ' = y_ad ρ ∧ y_tg ρ' = y_tg ρ ∧ (y_sg ρ').length = n' ∧ ((∀ i, n' ≤ i → y_ps ρ' i = none) ∧ ∀ i p, y_ps ρ' i = some p → tb.1.length ≤ p) ∧ y_erel (y_sg ρ') env' ∧ y_LR (y_g tb ρ' b) lo' lv' ∧ (∀ q ∈ lv', lv2.lookup q.1 = some q.2) ∧ k n' env' lo' = true
  | [], n, env, lo, lv, k, ρ, h, _, hLR, hq, hn, hp, h0, he => ⟨ρ, n, env, lo, lv, y_rle_refl ρ, rfl, rfl, hn, ⟨hp, h0⟩, he, hLR, hq, h⟩
  | q :: ls, n, env, lo, lv, k, ρ, h, hT, hLR, hq, hn, hp, h0, he => by
    obtain ⟨v, v1, v2⟩ := hT q List.mem_cons_self
    obtain ⟨ρ3, w, n3, env3, l1, l2, l3, l4, l5, l6, l7, l8⟩ := y_nv_ok (b := b) (show y_nv q.2 n env (fun v n env => y_opl ls n env ((q.1, v) :: lo) k) = true from h) hn hp h0 he v2
    obtain ⟨ρ4, n4, env4, lo4, lv4, m1, m2, m3, m4, m5, m6, m7, m8, m9⟩ := y_opl_ok (ρ := ρ3) (lv := (q.1, v) :: lv) l8 (fun q' hq' => by
        obtain ⟨v', a1, a2⟩ := hT q' (List.mem_cons_of_mem _ hq')
        exact ⟨v', a1, by rw [l2, l3]; exact a2⟩) ⟨⟨rfl, l7⟩, y_LR_mono (fun _ _ => y_g_mono l1) hLR⟩ (fun q' hq' => by
        rcases List.mem_cons.mp hq' with rfl | hq'
        · exact v1
        · exact hq q' hq') l4 l5.1 l5.2 l6
    exact ⟨ρ4, n4, env4, lo4, lv4, y_rle_trans l1 m1, m2.trans l2, m3.trans l3, m4, m5, m6, m7, m8, m9⟩
theorem y_lookup_mem {lv : List (Nat × Value)} {j : Nat} {v : Value} (h : lv.lookup j = some v) : (j, v) ∈ lv := by
  induction lv with
  | nil => cases h
  | cons q lv ih =>
    obtain ⟨a, w⟩ := q
    rw [List.lookup_cons] at h
    cases hb : (j == a) with
    | true =>
      rw [hb] at h
      cases h
      rw [eq_of_beq hb]
      exact List.mem_cons_self
    | false =>
      rw [hb] at h
      exact List.mem_cons_of_mem _ (ih h)
theorem y_gl_len : ∀ (G : List yPl) (i : Nat), (y_gl G i).length = G.length
  | [], _ => rfl
  | _ :: G, i => congrArg Nat.succ (y_gl_len G (i + 1))
theorem y_gl_GH {sg gs : List Int32} {G : List yPl} (hgl : gs.length = G.length) (h : ∀ (i : Nat) (x : Int32), gs[i]? = some x → sg[i]? = some x) : y_GH sg (y_gl G 0) gs := by
  refine ⟨by rw [y_gl_len, hgl], fun i v q _ => ?_⟩
  obtain ⟨q1, q2⟩ := y_gl_get G 0 i v q
  rw [← hgl] at q1
  obtain ⟨x, hx⟩ : ∃ x, gs[i]? = some x := ⟨_, List.getElem?_eq_getElem q1⟩
  refine ⟨x, hx, ?_⟩
  rw [q2, Nat.zero_add]
  exact h i x hx
theorem y_run_ok {G : List yPl} {L : List (Nat × yT)} {F : yPre} {is js : List yIt} {k : yLo → Nat → yEnv → yHp → Bool} {gs : List Int32} {lv : List (Nat × Value)} {tg : List yC} (h : y_run G L F is js k = true) (hgl : gs.length = G.length) (hA : y_Ann tb.1.length (y_tv tb (cw.map Prod.fst) tg) [] lv cw (L, F, is)) (hJ : y_AI tb.1.length lv cw gs js) : ∃ ρ lo lv' n env h', y_ad ρ = cw.map Prod.fst ∧ y_tg ρ = tg ∧ (∀ (i : Nat) (x : Int32), gs[i]? = some x → (y_sg ρ)[i]? = some x) ∧ y_LR (y_g tb ρ b) lo lv' ∧ (∀ q ∈ lv', lv.lookup q.1 = some q.2) ∧ y_erel (y_sg ρ) env ∧ y_rrel (y_sg ρ) h'.1 ∧ y_fxr tb ρ b cw h'.2.1 ∧ y_axr tb ρ b cw h'.2.2.1 ∧ (y_sg ρ).length = n ∧ (∀ i, n ≤ i → y_ps ρ i = none) ∧ (∀ i p, y_ps ρ i = some p → tb.1.length ≤ p) ∧ h'.2.2.2 = [] ∧ k lo n env h' = true := by
  obtain ⟨A1, A2, A3⟩ := hA
  dsimp only at A1 A2 A3
  obtain ⟨ρ0, e0⟩ : ∃ ρ0 : yRo, ρ0 = ([], fun _ => none, cw.map Prod.fst, tg) := ⟨_, rfl⟩
  obtain ⟨ρ1, n1, env1, a1, a2, a3, a4, a5, a6, a7, h1⟩ := y_gop_ok (tb := tb) (ρ := ρ0) (gs := gs) (show y_gop G 0 [] _ = true from h) hgl (by rw [e0]; rfl) (fun i _ => by rw [e0]) (fun i p q => by rw [e0] at q; cases q) (fun q hq => by cases hq)
  have ad1 : y_ad ρ1 = cw.map Prod.fst := by rw [a2, e0]
  have tg1 : y_tg ρ1 = tg := by rw [a3, e0]
  obtain ⟨ρ2, n2, env2, lo, lv', b1, b2, b3, b4, b5, b6, b7, b8, h2⟩ := y_opl_ok (b := b) (lv2 := lv) (lv := []) (ρ := ρ1) h1 (by rw [ad1, tg1]; exact A1) trivial (fun q hq => by cases hq) a4 a5.1 a5.2 a6
  have hlk : ∀ (j : Nat) (v : Value), lv'.lookup j = some v → lv.lookup j = some v := fun j v q => b8 _ (y_lookup_mem q)
  obtain ⟨ρ3, n3, env3, fx, c1, c2, c3, c4, c5, c6, c7, h3⟩ := y_post_ok (tb := tb) (b := b) (cw := cw) (ρ := ρ2) h2 A2 b4 b5.1 b5.2 b6 (fun q hq => by cases hq)
  have l13 := y_rle_trans b1 c1
  obtain ⟨ρ4, n4, env4, rl4, ax4, f1, f2, f3, f4, f5, f6, f7, f8, h4⟩ := y_opi_ok hlk (ρ := ρ3) h3 A3 (y_LR_mono (fun _ _ => y_g_mono c1) b7) ⟨rfl, fun i v q => by simp at q⟩ c4 c5.1 c5.2 c6 (fun q hq => by cases hq) c7 (fun q hq => by cases hq)
  have l14 := y_rle_trans l13 f1
  have hg4 : y_GH (y_sg ρ4) (y_gl G 0) gs := y_gl_GH hgl (fun i x q => by
    have := a7 i x q
    rw [Nat.zero_add] at this
    exact l14.1 _ _ this)
  obtain ⟨ρ5, n5, env5, rl, ax, e1, e2, e3, e4, e5, e6, e7, d7, h5⟩ := y_opi_ok hlk (ρ := ρ4) h4 hJ (y_LR_mono (fun _ _ => y_g_mono (y_rle_trans c1 f1)) b7) hg4 f4 f5.1 f5.2 f6 f7 (y_fxr_mono f1 c7) f8
  have l15 := y_rle_trans l14 e1
  refine ⟨ρ5, lo, lv', n5, env5, (rl, fx, ax, []), ?_, ?_, ?_, y_LR_mono (fun _ _ => y_g_mono (y_rle_trans c1 (y_rle_trans f1 e1))) b7, b8, e6, e7, y_fxr_mono (y_rle_trans f1 e1) c7, d7, e4, e5.1, e5.2, rfl, h5⟩
  · rw [e2, f2, c2, b2, ad1]
  · rw [e3, f3, c3, b3, tg1]
  · intro i x q
    have := a7 i x q
    rw [Nat.zero_add] at this
    exact l15.1 _ _ this
end YK
