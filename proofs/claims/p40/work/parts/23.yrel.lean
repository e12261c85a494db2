-- values alike
def y_eqv (a b : yV) : Bool := match a, b with
  | .inl u, .inl v => Nat.beq u v
  | .inr (.inl i), .inr (.inl j) => Nat.beq i j
  | _, _ => false
theorem y_eqv_ok {a b : yV} (h : y_eqv a b = true) : a = b := by
  unfold y_eqv at h
  split at h
  · rw [Nat.eq_of_beq_eq_true h]
  · rw [Nat.eq_of_beq_eq_true h]
  · cases h
theorem y_gi_fun {sg : List Int32} {a : yV} {x y : Int32} (h1 : y_gi sg a x) (h2 : y_gi sg a y) : x = y := by
  match a, h1, h2 with
  | .inl u, h1, h2 => exact Eq.trans h1 (Eq.symm h2)
  | .inr (.inl i), h1, h2 =>
    have h1 : sg[i]? = some x := h1
    have h2 : sg[i]? = some y := h2
    rw [h1] at h2
    exact Option.some.inj h2
  | .inr (.inr _), h1, _ => exact h1.elim
/-- what was computed before -/
noncomputable def y_fnd (op : Nat) (a b : yV) (rl : List yR) (k : Nat → Bool) (f : Bool) : Bool := y_fl (fun q r => cond (and (Nat.beq q.1 op) (and (y_eqv q.2.1 a) (y_eqv q.2.2.1 b))) (k q.2.2.2) r) f rl
theorem y_fnd_ok {sg : List Int32} {op : Nat} {a b : yV} {rl : List yR} {k : Nat → Bool} {f : Bool} {x y : Int32} (h : y_fnd op a b rl k f = true) (hr : y_rrel sg rl) (hx : y_gi sg a x) (hy : y_gi sg b y) : (∃ d, sg[d]? = some (y_op op x y) ∧ k d = true) ∨ f = true := by
  induction rl with
  | nil => exact Or.inr h
  | cons q rl ih =>
    have h : cond (and (Nat.beq q.1 op) (and (y_eqv q.2.1 a) (y_eqv q.2.2.1 b))) (k q.2.2.2) (y_fnd op a b rl k f) = true := h
    rcases y_bool h with ⟨hc, h⟩ | ⟨_, h⟩
    · obtain ⟨c1, c2⟩ := z_and hc
      obtain ⟨c2, c3⟩ := z_and c2
      have c1 := Nat.eq_of_beq_eq_true c1
      have c2 := y_eqv_ok c2
      have c3 := y_eqv_ok c3
      obtain ⟨x', y', g1, g2, g3⟩ := hr q List.mem_cons_self
      rw [c2] at g1
      rw [c3] at g2
      rw [c1, y_gi_fun g1 hx, y_gi_fun g2 hy] at g3
      exact Or.inl ⟨_, g3, h⟩
    · exact ih h (fun p hp => hr p (List.mem_cons_of_mem _ hp))
theorem y_rnd {X C H : Nat} (h1 : X ≤ H) (h2 : 0 < C) : X ≤ H - (H - X % C) % C := by
  have a1 : X % C ≤ X := Nat.mod_le _ _
  have a2 : X - X % C = C * (X / C) := by
    have := Nat.div_add_mod X C
    omega
  have a3 : X / C ≤ (H - X % C) / C := by
    rw [Nat.le_div_iff_mul_le h2, Nat.mul_comm, ← a2]
    omega
  have a4 := Nat.div_add_mod (H - X % C) C
  have a5 : C * (X / C) ≤ C * ((H - X % C) / C) := Nat.mul_le_mul_left _ a3
  omega
/-- what a sum, a difference says of its parts -/
noncomputable def y_p1 (q : yR) (env : yEnv) (k : yEnv → Bool) : Bool := match q.1 with
  | 0 => y_dm env q.2.1 fun Da => y_hull Da fun la ha => y_dm env q.2.2.1 fun Db => y_hull Db fun lb hb =>
      cond (and (Nat.ble 2147483648 (la + lb)) (Nat.ble (ha + hb) 6442450943)) (y_rf env (y_sy q.2.2.2) (la + lb - 2147483648) (ha + hb - 2147483648) fun env => y_dm env (y_sy q.2.2.2) fun Dd => y_hull Dd fun ld hd => y_rf env q.2.1 (ld + 2147483648 - hb) (hd + 2147483648 - lb) fun env => y_dm env q.2.1 fun Da => y_hull Da fun la ha => y_rf env q.2.2.1 (ld + 2147483648 - ha) (hd + 2147483648 - la) k) (k env)
  | 1 => y_dm env (y_sy q.2.2.2) fun Dd => y_hull Dd fun ld hd => cond (and (Nat.beq ld 2147483648) (Nat.beq hd 2147483648)) (y_eq q.2.1 q.2.2.1 env k) <| y_dm env q.2.1 fun Da => y_hull Da fun la ha => y_dm env q.2.2.1 fun Db => y_hull Db fun lb hb =>
      cond (and (Nat.ble hb (la + 2147483648)) (Nat.ble (ha + 2147483648) (lb + 4294967295))) (y_rf env (y_sy q.2.2.2) (la + 2147483648 - hb) (ha + 2147483648 - lb) fun env => y_dm env (y_sy q.2.2.2) fun Dd => y_hull Dd fun ld hd => y_rf env q.2.1 (ld + lb - 2147483648) (hd + hb - 2147483648) fun env => y_dm env q.2.1 fun Da => y_hull Da fun la ha => y_rf env q.2.2.1 (la + 2147483648 - hd) (ha + 2147483648 - ld) k) (k env)
  | 4 => y_dm env q.2.1 fun Da => y_hull Da fun la ha => y_dm env q.2.2.1 fun Db => y_hull Db fun lb hb => y_dm env (y_sy q.2.2.2) fun Dd => y_hull Dd fun ld hd =>
      cond (and (and (and (Nat.beq lb hb) (Nat.ble 2147483649 lb)) (and (Nat.beq ld hd) (Nat.ble 2147483648 ld))) (and (Nat.ble 2147483648 la) (Nat.ble ld ha))) (y_rf env q.2.1 la (ha - (ha - ld) % (lb - 2147483648)) k) (k env)
  | _ => k env
theorem y_p1_ok {sg : List Int32} {q : yR} {env : yEnv} {k : yEnv → Bool} (h : y_p1 q env k = true) (he : y_erel sg env) (hq : ∃ x y, y_gi sg q.2.1 x ∧ y_gi sg q.2.2.1 y ∧ sg[q.2.2.2]? = some (y_op q.1 x y)) : ∃ env', y_erel sg env' ∧ k env' = true := by
  obtain ⟨op, a, b, d⟩ := q
  obtain ⟨x, y, hx, hy, hd⟩ := hq
  dsimp only at hx hy hd
  have bx := z_b_int x
  have bY := z_b_int y
  match op, h, hd with
  | 0, h, hd =>
    have hd' : y_gi sg (y_sy d) (x + y) := hd
    have h : y_dm env a (fun Da => y_hull Da fun la ha => y_dm env b fun Db => y_hull Db fun lb hb =>
      cond (and (Nat.ble 2147483648 (la + lb)) (Nat.ble (ha + hb) 6442450943)) (y_rf env (y_sy d) (la + lb - 2147483648) (ha + hb - 2147483648) fun env => y_dm env (y_sy d) fun Dd => y_hull Dd fun ld hd => y_rf env a (ld + 2147483648 - hb) (hd + 2147483648 - lb) fun env => y_dm env a fun Da => y_hull Da fun la ha => y_rf env b (ld + 2147483648 - ha) (hd + 2147483648 - la) k) (k env)) = true := h
    obtain ⟨Da, d1, h⟩ := y_dm_ok h he hx
    have h := y_hull_ok h
    obtain ⟨Db, d2, h⟩ := y_dm_ok h he hy
    have h := y_hull_ok h
    have m1 := y_min_le d1
    have m2 := y_le_max d1
    have m3 := y_min_le d2
    have m4 := y_le_max d2
    rcases y_bool h with ⟨hc, h⟩ | ⟨_, h⟩
    · obtain ⟨c1, c2⟩ := z_and hc
      have c1 := z_le_of c1
      have c2 := z_le_of c2
      have e : (x + y).toInt = x.toInt + y.toInt := Jvm.Kit.i32_add (by omega) (by omega)
      have bz := z_b_int (x + y)
      obtain ⟨e1, he1, h⟩ := y_rf_ok h he hd' (by omega) (by omega)
      obtain ⟨Dd, d3, h⟩ := y_dm_ok h he1 hd'
      have h := y_hull_ok h
      have m5 := y_min_le d3
      have m6 := y_le_max d3
      obtain ⟨e2, he2, h⟩ := y_rf_ok h he1 hx (by omega) (by omega)
      obtain ⟨Da', d4, h⟩ := y_dm_ok h he2 hx
      have h := y_hull_ok h
      have m7 := y_min_le d4
      have m8 := y_le_max d4
      exact y_rf_ok h he2 hy (by omega) (by omega)
    · exact ⟨env, he, h⟩
  | 1, h, hd =>
    have hd' : y_gi sg (y_sy d) (x - y) := hd
    have h : y_dm env (y_sy d) (fun Dd => y_hull Dd fun ld hd => cond (and (Nat.beq ld 2147483648) (Nat.beq hd 2147483648)) (y_eq a b env k) (y_dm env a (fun Da => y_hull Da fun la ha => y_dm env b fun Db => y_hull Db fun lb hb =>
      cond (and (Nat.ble hb (la + 2147483648)) (Nat.ble (ha + 2147483648) (lb + 4294967295))) (y_rf env (y_sy d) (la + 2147483648 - hb) (ha + 2147483648 - lb) fun env => y_dm env (y_sy d) fun Dd => y_hull Dd fun ld hd => y_rf env a (ld + lb - 2147483648) (hd + hb - 2147483648) fun env => y_dm env a fun Da => y_hull Da fun la ha => y_rf env b (la + 2147483648 - hd) (ha + 2147483648 - ld) k) (k env)))) = true := h
    obtain ⟨D0, d0, h⟩ := y_dm_ok h he hd'
    have h := y_hull_ok h
    rcases y_bool h with ⟨hc0, h⟩ | ⟨_, h⟩
    · obtain ⟨e1, e2⟩ := z_and hc0
      have e1 := Nat.eq_of_beq_eq_true e1
      have e2 := Nat.eq_of_beq_eq_true e2
      have m1 := y_min_le d0
      have m2 := y_le_max d0
      have bz := z_b_int (x - y)
      have e3 : (x - y).toInt = 0 := by omega
      have e4 : x = y := by
        have e5 : x - y = 0 := Int32.toInt_inj.mp (by rw [e3]; rfl)
        have e6 : x - y + y = 0 + y := by rw [e5]
        rw [Int32.sub_add_cancel, Int32.zero_add] at e6
        exact e6
      exact y_eq_ok h he hx hy (by rw [e4])
    have h : y_dm env a (fun Da => y_hull Da fun la ha => y_dm env b fun Db => y_hull Db fun lb hb =>
      cond (and (Nat.ble hb (la + 2147483648)) (Nat.ble (ha + 2147483648) (lb + 4294967295))) (y_rf env (y_sy d) (la + 2147483648 - hb) (ha + 2147483648 - lb) fun env => y_dm env (y_sy d) fun Dd => y_hull Dd fun ld hd => y_rf env a (ld + lb - 2147483648) (hd + hb - 2147483648) fun env => y_dm env a fun Da => y_hull Da fun la ha => y_rf env b (la + 2147483648 - hd) (ha + 2147483648 - ld) k) (k env)) = true := h
    obtain ⟨Da, d1, h⟩ := y_dm_ok h he hx
    have h := y_hull_ok h
    obtain ⟨Db, d2, h⟩ := y_dm_ok h he hy
    have h := y_hull_ok h
    have m1 := y_min_le d1
    have m2 := y_le_max d1
    have m3 := y_min_le d2
    have m4 := y_le_max d2
    rcases y_bool h with ⟨hc, h⟩ | ⟨_, h⟩
    · obtain ⟨c1, c2⟩ := z_and hc
      have c1 := z_le_of c1
      have c2 := z_le_of c2
      have e : (x - y).toInt = x.toInt - y.toInt := Jvm.Kit.i32_sub (by omega) (by omega)
      have bz := z_b_int (x - y)
      obtain ⟨e1, he1, h⟩ := y_rf_ok h he hd' (by omega) (by omega)
      obtain ⟨Dd, d3, h⟩ := y_dm_ok h he1 hd'
      have h := y_hull_ok h
      have m5 := y_min_le d3
      have m6 := y_le_max d3
      obtain ⟨e2, he2, h⟩ := y_rf_ok h he1 hx (by omega) (by omega)
      obtain ⟨Da', d4, h⟩ := y_dm_ok h he2 hx
      have h := y_hull_ok h
      have m7 := y_min_le d4
      have m8 := y_le_max d4
      exact y_rf_ok h he2 hy (by omega) (by omega)
    · exact ⟨env, he, h⟩
  | 2, h, _ => exact ⟨env, he, h⟩
  | 3, h, _ => exact ⟨env, he, h⟩
  | 4, h, hd =>
    have hd' : y_gi sg (y_sy d) (x - x / y * y) := hd
    have h : y_dm env a (fun Da => y_hull Da fun la ha => y_dm env b fun Db => y_hull Db fun lb hb => y_dm env (y_sy d) fun Dd => y_hull Dd fun ld hd =>
      cond (and (and (and (Nat.beq lb hb) (Nat.ble 2147483649 lb)) (and (Nat.beq ld hd) (Nat.ble 2147483648 ld))) (and (Nat.ble 2147483648 la) (Nat.ble ld ha))) (y_rf env a la (ha - (ha - ld) % (lb - 2147483648)) k) (k env)) = true := h
    obtain ⟨Da, d1, h⟩ := y_dm_ok h he hx
    have h := y_hull_ok h
    obtain ⟨Db, d2, h⟩ := y_dm_ok h he hy
    have h := y_hull_ok h
    obtain ⟨Dd, d3, h⟩ := y_dm_ok h he hd'
    have h := y_hull_ok h
    have m1 := y_min_le d1
    have m2 := y_le_max d1
    have m3 := y_min_le d2
    have m4 := y_le_max d2
    have m5 := y_min_le d3
    have m6 := y_le_max d3
    rcases y_bool h with ⟨hc, h⟩ | ⟨_, h⟩
    · obtain ⟨c1, c2⟩ := z_and hc
      obtain ⟨c1, c3⟩ := z_and c1
      obtain ⟨c1, c4⟩ := z_and c1
      obtain ⟨c3, c5⟩ := z_and c3
      obtain ⟨c2, c6⟩ := z_and c2
      have c1 := Nat.eq_of_beq_eq_true c1
      have c3 := Nat.eq_of_beq_eq_true c3
      have c4 := z_le_of c4
      have c5 := z_le_of c5
      have c2 := z_le_of c2
      have c6 := z_le_of c6
      have e := rem_toInt x y
      have bz := z_b_int (x - x / y * y)
      have e2 : x.toInt.tmod y.toInt = x.toInt % y.toInt := Int.tmod_eq_emod_of_nonneg (by omega)
      obtain ⟨X, hX⟩ : ∃ X : Nat, x.toInt = (X : Int) := ⟨x.toInt.toNat, by omega⟩
      obtain ⟨C, hC⟩ : ∃ C : Nat, y.toInt = (C : Int) := ⟨y.toInt.toNat, by omega⟩
      rw [hX, hC] at e2
      have e3 : (z_b (x - x / y * y) : Int) = ((X % C : Nat) : Int) + 2147483648 := by
        rw [bz, e, hX, hC, e2, Int.natCast_emod]
      refine y_rf_ok h he hx m1 ?_
      have e4 : y_max Da - 2147483648 - (y_max Da - y_min Dd) % (y_min Db - 2147483648) ≥ X := by
        have h1 : y_min Db - 2147483648 = C := by omega
        have h2 : y_max Da - y_min Dd = (y_max Da - 2147483648) - X % C := by omega
        rw [h1, h2]
        exact y_rnd (by omega) (by omega)
      have e5 : (y_max Da - y_min Dd) % (y_min Db - 2147483648) ≤ y_max Da - y_min Dd := Nat.mod_le _ _
      omega
    · exact ⟨env, he, h⟩
  | n + 5, h, _ => exact ⟨env, he, h⟩
noncomputable def y_pr (rl : List yR) : yEnv → (yEnv → Bool) → Bool := y_fl (fun q ih env k => y_p1 q env fun env => ih env k) (fun env k => k env) rl
theorem y_pr_ok {sg : List Int32} {rl : List yR} (hr : y_rrel sg rl) : ∀ {env : yEnv} {k : yEnv → Bool}, y_pr rl env k = true → y_erel sg env → ∃ env', y_erel sg env' ∧ k env' = true := by
  induction rl with
  | nil => intro env k h he; exact ⟨env, he, h⟩
  | cons q rl ih =>
    intro env k h he
    obtain ⟨e1, he1, h⟩ := y_p1_ok (k := fun env => y_pr rl env k) h he (hr q List.mem_cons_self)
    exact ih (fun p hp => hr p (List.mem_cons_of_mem _ hp)) h he1
/-- a branch tells of differences that are signs -/
def y_flp : Jvm.ClassFile.Cond → Jvm.ClassFile.Cond
  | .lt => .gt
  | .ge => .le
  | .le => .ge
  | .gt => .lt
  | .eq => .eq
  | .ne => .ne
noncomputable def y_rng (c : Jvm.ClassFile.Cond) (k : Nat → Nat → Bool) : Bool := match c with
  | .lt => k 2147483649 4294967295
  | .le => k 2147483648 4294967295
  | .gt => k 0 2147483647
  | .ge => k 0 2147483648
  | .eq => k 2147483648 2147483648
  | .ne => k 0 4294967295
/-- b - a is the sign d, and a c b -/
noncomputable def y_o2 (c : Jvm.ClassFile.Cond) (a b : yV) (d : Nat) (env : yEnv) (k : yEnv → Bool) : Bool := y_dm env a fun Da => y_hull Da fun la ha => y_dm env b fun Db => y_hull Db fun lb hb => cond (and (Nat.ble ha (lb + 2147483648)) (Nat.ble hb (la + 2147483647))) (y_rng c fun l u => y_rf env (y_sy d) l u k) (k env)
noncomputable def y_o1 (c : Jvm.ClassFile.Cond) (a b : yV) (q : yR) (env : yEnv) (k : yEnv → Bool) : Bool := cond (Nat.beq q.1 1) (cond (and (y_eqv q.2.1 b) (y_eqv q.2.2.1 a)) (y_o2 c a b q.2.2.2 env k) (cond (and (y_eqv q.2.1 a) (y_eqv q.2.2.1 b)) (y_o2 (y_flp c) b a q.2.2.2 env k) (k env))) (k env)
noncomputable def y_od (c : Jvm.ClassFile.Cond) (a b : yV) (rl : List yR) : yEnv → (yEnv → Bool) → Bool := y_fl (fun q ih env k => y_o1 c a b q env fun env => ih env k) (fun env k => k env) rl
theorem y_flp_ok {c : Jvm.ClassFile.Cond} {x y : Int32} (h : z_hold c x y) : z_hold (y_flp c) y x := by
  cases c
  · exact Eq.symm h
  · exact fun e => h (Eq.symm e)
  · exact h
  · exact h
  · exact h
  · exact h
theorem y_o2_ok {sg : List Int32} {c : Jvm.ClassFile.Cond} {a b : yV} {d : Nat} {env : yEnv} {k : yEnv → Bool} {x y : Int32} (h : y_o2 c a b d env k = true) (he : y_erel sg env) (hx : y_gi sg a x) (hy : y_gi sg b y) (hd : sg[d]? = some (y - x)) (hh : z_hold c x y) : ∃ env', y_erel sg env' ∧ k env' = true := by
  obtain ⟨Da, d1, h⟩ := y_dm_ok h he hx
  have h := y_hull_ok h
  obtain ⟨Db, d2, h⟩ := y_dm_ok h he hy
  have h := y_hull_ok h
  have m1 := y_min_le d1
  have m2 := y_le_max d1
  have m3 := y_min_le d2
  have m4 := y_le_max d2
  rcases y_bool h with ⟨hc, h⟩ | ⟨_, h⟩
  · obtain ⟨c1, c2⟩ := z_and hc
    have c1 := z_le_of c1
    have c2 := z_le_of c2
    have i1 := z_b_int x
    have i2 := z_b_int y
    have i3 := z_b_int (y - x)
    have e : (y - x).toInt = y.toInt - x.toInt := Jvm.Kit.i32_sub (by omega) (by omega)
    have bl := y_b_lt (y - x)
    have hd' : y_gi sg (y_sy d) (y - x) := hd
    have g0 := z_beq x y
    have g1 := z_blt x y
    have g2 := z_blt y x
    have g3 := z_ble x y
    have g4 := z_ble y x
    cases c
    · have := g0.mp hh
      exact y_rf_ok (show y_rf env (y_sy d) 2147483648 2147483648 k = true from h) he hd' (by omega) (by omega)
    · exact y_rf_ok (show y_rf env (y_sy d) 0 4294967295 k = true from h) he hd' (Nat.zero_le _) bl
    · have := g1.mp hh
      exact y_rf_ok (show y_rf env (y_sy d) 2147483649 4294967295 k = true from h) he hd' (by omega) bl
    · have := g4.mp hh
      exact y_rf_ok (show y_rf env (y_sy d) 0 2147483648 k = true from h) he hd' (Nat.zero_le _) (by omega)
    · have := g2.mp hh
      exact y_rf_ok (show y_rf env (y_sy d) 0 2147483647 k = true from h) he hd' (Nat.zero_le _) (by omega)
    · have := g3.mp hh
      exact y_rf_ok (show y_rf env (y_sy d) 2147483648 4294967295 k = true from h) he hd' (by omega) bl
  · exact ⟨env, he, h⟩
theorem y_od_ok {sg : List Int32} {c : Jvm.ClassFile.Cond} {a b : yV} {x y : Int32} (hx : y_gi sg a x) (hy : y_gi sg b y) (hh : z_hold c x y) : ∀ {rl : List yR} {env : yEnv} {k : yEnv → Bool}, y_rrel sg rl → y_od c a b rl env k = true → y_erel sg env → ∃ env', y_erel sg env' ∧ k env' = true
  | [], env, k, _, h, he => ⟨env, he, h⟩
  | q :: rl, env, k, hr, h, he => by
    have next : ∀ {env : yEnv}, y_erel sg env → y_od c a b rl env k = true → ∃ env', y_erel sg env' ∧ k env' = true := fun he h => y_od_ok hx hy hh (fun p hp => hr p (List.mem_cons_of_mem _ hp)) h he
    obtain ⟨u, w, g1, g2, g3⟩ := hr q List.mem_cons_self
    rcases y_bool (show cond (Nat.beq q.1 1) (cond (and (y_eqv q.2.1 b) (y_eqv q.2.2.1 a)) (y_o2 c a b q.2.2.2 env fun env => y_od c a b rl env k) (cond (and (y_eqv q.2.1 a) (y_eqv q.2.2.1 b)) (y_o2 (y_flp c) b a q.2.2.2 env fun env => y_od c a b rl env k) (y_od c a b rl env k))) (y_od c a b rl env k) = true from h) with ⟨hc, h⟩ | ⟨_, h⟩
    · rw [Nat.eq_of_beq_eq_true hc] at g3
      rcases y_bool h with ⟨hc, h⟩ | ⟨_, h⟩
      · obtain ⟨c1, c2⟩ := z_and hc
        rw [y_eqv_ok c1] at g1
        rw [y_eqv_ok c2] at g2
        rw [y_gi_fun g1 hy, y_gi_fun g2 hx] at g3
        obtain ⟨e1, he1, h⟩ := y_o2_ok h he hx hy g3 hh
        exact next he1 h
      · rcases y_bool h with ⟨hc, h⟩ | ⟨_, h⟩
        · obtain ⟨c1, c2⟩ := z_and hc
          rw [y_eqv_ok c1] at g1
          rw [y_eqv_ok c2] at g2
          rw [y_gi_fun g1 hx, y_gi_fun g2 hy] at g3
          obtain ⟨e1, he1, h⟩ := y_o2_ok h he hy hx g3 (y_flp_ok hh)
          exact next he1 h
        · exact next he h
    · exact next he h
/-- a branch -/
noncomputable def y_br (c : Jvm.ClassFile.Cond) (a b : yV) (rl : List yR) (env : yEnv) (T F : yEnv → Bool) : Bool := y_rs env a fun a => y_rs env b fun b => match a, b with
  | .inl x, .inl y => cond (z_cmp c (z_bu x) (z_bu y)) (T env) (F env)
  | a, b => cond (y_eqv a b) (cond (z_cmp c 0 0) (T env) (F env)) (and (y_as c a b env fun env => y_od c a b rl env fun env => y_pr rl env T) (y_as (y_neg c) a b env fun env => y_od (y_neg c) a b rl env fun env => y_pr rl env F))
theorem y_cmp_refl (c : Jvm.ClassFile.Cond) (n : Nat) : z_cmp c 0 0 = z_cmp c n n := by
  have e1 : Nat.beq n n = true := Nat.beq_refl n
  have e2 : Nat.ble n n = true := Nat.ble_self_eq_true n
  have e3 : Nat.blt n n = false := by
    rw [← Bool.not_eq_true]
    unfold Nat.blt
    rw [Nat.ble_eq]
    omega
  cases c
  · show true = Nat.beq n n
    rw [e1]
  · show false = !(Nat.beq n n)
    rw [e1]; rfl
  · show false = Nat.blt n n
    rw [e3]
  · show true = Nat.ble n n
    rw [e2]
  · show false = Nat.blt n n
    rw [e3]
  · show true = Nat.ble n n
    rw [e2]
theorem y_br_gen {sg : List Int32} {c : Jvm.ClassFile.Cond} {a b : yV} {rl : List yR} {env : yEnv} {T F : yEnv → Bool} {x y : Int32} (h : cond (y_eqv a b) (cond (z_cmp c 0 0) (T env) (F env)) (and (y_as c a b env fun env => y_od c a b rl env fun env => y_pr rl env T) (y_as (y_neg c) a b env fun env => y_od (y_neg c) a b rl env fun env => y_pr rl env F)) = true) (he : y_erel sg env) (hr : y_rrel sg rl) (hx : y_gi sg a x) (hy : y_gi sg b y) : (z_hold c x y → ∃ e, y_erel sg e ∧ T e = true) ∧ (¬ z_hold c x y → ∃ e, y_erel sg e ∧ F e = true) := by
  rcases y_bool h with ⟨hc, h1⟩ | ⟨_, h1⟩
  · have hab := y_eqv_ok hc
    rw [← hab] at hy
    have hxy := y_gi_fun hx hy
    have hk := z_cmp_ok c x y
    rw [← hxy] at hk ⊢
    rw [y_cmp_refl c (z_b x)] at h1
    rcases y_bool h1 with ⟨hd, h2⟩ | ⟨hd, h2⟩
    · exact ⟨fun _ => ⟨env, he, h2⟩, fun n => absurd (hk.mp hd) n⟩
    · exact ⟨fun n => (by rw [hk.mpr n] at hd; cases hd), fun _ => ⟨env, he, h2⟩⟩
  · obtain ⟨h2, h3⟩ := z_and h1
    refine ⟨fun q => ?_, fun q => ?_⟩
    · obtain ⟨e1, he1, h4⟩ := y_as_ok h2 he hx hy q
      obtain ⟨e2, he2, h5⟩ := y_od_ok hx hy q hr h4 he1
      exact y_pr_ok hr h5 he2
    · obtain ⟨e1, he1, h4⟩ := y_as_ok h3 he hx hy (y_neg_ok q)
      obtain ⟨e2, he2, h5⟩ := y_od_ok hx hy (y_neg_ok q) hr h4 he1
      exact y_pr_ok hr h5 he2
theorem y_br_ok {sg : List Int32} {c : Jvm.ClassFile.Cond} {a b : yV} {rl : List yR} {env : yEnv} {T F : yEnv → Bool} {x y : Int32} (h : y_br c a b rl env T F = true) (he : y_erel sg env) (hr : y_rrel sg rl) (hx : y_gi sg a x) (hy : y_gi sg b y) : (z_hold c x y → ∃ e, y_erel sg e ∧ T e = true) ∧ (¬ z_hold c x y → ∃ e, y_erel sg e ∧ F e = true) := by
  obtain ⟨a', ha, h1⟩ := y_rs_ok h he hx
  obtain ⟨b', hb, h2⟩ := y_rs_ok h1 he hy
  cases a' with
  | inr r => exact y_br_gen h2 he hr ha hb
  | inl u =>
    cases b' with
    | inr r => exact y_br_gen h2 he hr ha hb
    | inl v =>
      have ha : x = nI u := ha
      have hb : y = nI v := hb
      have h3 : cond (z_cmp c (z_bu u) (z_bu v)) (T env) (F env) = true := h2
      rw [← z_b_nI u, ← z_b_nI v, ← ha, ← hb] at h3
      have hk := z_cmp_ok c x y
      rcases y_bool h3 with ⟨hd, h4⟩ | ⟨hd, h4⟩
      · exact ⟨fun _ => ⟨env, he, h4⟩, fun n => absurd (hk.mp hd) n⟩
      · exact ⟨fun n => (by rw [hk.mpr n] at hd; cases hd), fun _ => ⟨env, he, h4⟩⟩
/-- a sign as another one and a number -/
noncomputable def y_nrm (rl : List yR) (fu : Nat) : yV → Nat → (yV → Nat → Bool) → Bool := Nat.rec (motive := fun _ => yV → Nat → (yV → Nat → Bool) → Bool) (fun v o k => k v o) (fun _ ih v o k => match v with
  | .inr (.inl i) => y_fl (fun q r => cond (Nat.beq q.2.2.2 i) (match q.1, q.2.1, q.2.2.1 with
      | 0, .inr (.inl j), .inl c => z_frc (z_un (nI o + nI c)) fun o => ih (y_sy j) o k
      | 0, .inl c, .inr (.inl j) => z_frc (z_un (nI o + nI c)) fun o => ih (y_sy j) o k
      | 1, .inr (.inl j), .inl c => z_frc (z_un (nI o - nI c)) fun o => ih (y_sy j) o k
      | _, _, _ => r) r) (k v o) rl
  | _ => k v o) fu
theorem y_nrm_ok {sg : List Int32} {rl : List yR} (hr : y_rrel sg rl) : ∀ (fu : Nat) {v : yV} {o : Nat} {k : yV → Nat → Bool} {x : Int32}, y_nrm rl fu v o k = true → y_gi sg v x → ∃ v' o' x', y_gi sg v' x' ∧ x + nI o = x' + nI o' ∧ k v' o' = true
  | 0, v, o, k, x, h, hx => ⟨v, o, x, hx, rfl, h⟩
  | fu + 1, v, o, k, x, h, hx => by
    match v, h, hx with
    | .inl u, h, hx => exact ⟨_, o, x, hx, rfl, h⟩
    | .inr (.inr w), h, hx => exact ⟨_, o, x, hx, rfl, h⟩
    | .inr (.inl i), h, hx =>
      have gen : ∀ (l : List yR), (∀ q ∈ l, q ∈ rl) → y_fl (fun (q : yR) r => cond (Nat.beq q.2.2.2 i) (match q.1, q.2.1, q.2.2.1 with
          | 0, .inr (.inl j), .inl c => z_frc (z_un (nI o + nI c)) fun o => y_nrm rl fu (y_sy j) o k
          | 0, .inl c, .inr (.inl j) => z_frc (z_un (nI o + nI c)) fun o => y_nrm rl fu (y_sy j) o k
          | 1, .inr (.inl j), .inl c => z_frc (z_un (nI o - nI c)) fun o => y_nrm rl fu (y_sy j) o k
          | _, _, _ => r) r) (k (.inr (.inl i)) o) l = true → ∃ v' o' x', y_gi sg v' x' ∧ x + nI o = x' + nI o' ∧ k v' o' = true := by
        intro l
        induction l with
        | nil => intro _ h; exact ⟨_, o, x, hx, rfl, h⟩
        | cons q l ih =>
          intro hm h
          have ih := ih (fun q hq => hm q (List.mem_cons_of_mem _ hq))
          rcases y_bool (show cond (Nat.beq q.2.2.2 i) _ _ = true from h) with ⟨hc, h1⟩ | ⟨_, h1⟩
          · have hc := Nat.eq_of_beq_eq_true hc
            obtain ⟨y, z, g1, g2, g3⟩ := hr q (hm q List.mem_cons_self)
            rw [hc] at g3
            have e := y_gi_fun (a := y_sy i) hx g3
            split at h1
            · rename_i j c e1 e2 e3
              rw [z_frc_eq] at h1
              rw [e1] at e
              rw [e2] at g1
              rw [e3] at g2
              have g2 : z = nI c := g2
              obtain ⟨v', o', x', k1, k2, k3⟩ := y_nrm_ok hr fu h1 g1
              refine ⟨v', o', x', k1, ?_, k3⟩
              rw [← k2, z_nI_un, e, ← g2]
              show y + z + nI o = y + (nI o + z)
              rw [Int32.add_assoc, Int32.add_comm z]
            · rename_i c j e1 e2 e3
              rw [z_frc_eq] at h1
              rw [e1] at e
              rw [e2] at g1
              rw [e3] at g2
              have g1 : y = nI c := g1
              obtain ⟨v', o', x', k1, k2, k3⟩ := y_nrm_ok hr fu h1 g2
              refine ⟨v', o', x', k1, ?_, k3⟩
              rw [← k2, z_nI_un, e, ← g1]
              show y + z + nI o = z + (nI o + y)
              rw [Int32.add_comm y z, Int32.add_assoc, Int32.add_comm y]
            · rename_i j c e1 e2 e3
              rw [z_frc_eq] at h1
              rw [e1] at e
              rw [e2] at g1
              rw [e3] at g2
              have g2 : z = nI c := g2
              obtain ⟨v', o', x', k1, k2, k3⟩ := y_nrm_ok hr fu h1 g1
              refine ⟨v', o', x', k1, ?_, k3⟩
              rw [← k2, z_nI_un, e, ← g2]
              show y - z + nI o = y + (nI o - z)
              rw [Int32.sub_eq_add_neg, Int32.sub_eq_add_neg, Int32.add_assoc, Int32.add_comm (-z)]
            · exact ih h1
          · exact ih h1
      exact gen rl (fun _ q => q) h
/-- a difference of two that differ by a number -/
noncomputable def y_bn1 (op : Nat) (a b : yV) (rl : List yR) (k : Nat → Bool) (f : Bool) : Bool := cond (Nat.beq op 1) (y_nrm rl 64 a 0 fun a oa => y_nrm rl 64 b 0 fun b ob => cond (y_eqv a b) (z_frc (z_un (nI oa - nI ob)) k) f) f
theorem y_bn1_ok {sg : List Int32} {op : Nat} {a b : yV} {rl : List yR} {k : Nat → Bool} {f : Bool} {x y : Int32} (h : y_bn1 op a b rl k f = true) (hr : y_rrel sg rl) (hx : y_gi sg a x) (hy : y_gi sg b y) : k (z_un (y_op op x y)) = true ∨ f = true := by
  rcases y_bool h with ⟨hc, h⟩ | ⟨_, h⟩
  · obtain ⟨a', oa, x', hx', ex, h⟩ := y_nrm_ok hr 64 h hx
    obtain ⟨b', ob, y', hy', ey, h⟩ := y_nrm_ok hr 64 h hy
    rcases y_bool h with ⟨hc2, h⟩ | ⟨_, h⟩
    · rw [z_frc_eq] at h
      rw [← y_eqv_ok hc2] at hy'
      have e := y_gi_fun hx' hy'
      subst e
      have z0 : ∀ z : Int32, z + nI 0 = z := fun z => Int32.add_zero z
      rw [z0] at ex ey
      have e3 : y_op op x y = nI oa - nI ob := by
        rw [Nat.eq_of_beq_eq_true hc]
        show x - y = nI oa - nI ob
        rw [ex, ey, Int32.sub_eq_add_neg, Int32.neg_add, Int32.sub_eq_add_neg, show x' + nI oa + (-x' + -nI ob) = (x' + -x') + (nI oa + -nI ob) from by ac_rfl, Int32.add_right_neg, Int32.zero_add, ← Int32.sub_eq_add_neg]
      rw [e3]
      exact Or.inl h
    · exact Or.inr h
  · exact Or.inr h
/-- something is computed: known, or as before, or a new sign -/
noncomputable def y_bin (op : Nat) (a b : yV) (n : Nat) (env : yEnv) (rl : List yR) (k : yV → Nat → yEnv → List yR → Bool) : Bool := y_rs env a fun a => y_rs env b fun b => match a, b with
  | .inl x, .inl y => z_frc (z_un (y_op op (nI x) (nI y))) fun u => k (.inl u) n env rl
  | a, b => y_bn1 op a b rl (fun u => k (.inl u) n env rl) (y_fnd op a b rl (fun d => k (y_sy d) n env rl) (y_dm env a fun Da => y_dm env b fun Db => y_dop op Da Db fun D => z_frc (n + 1) fun n' => k (y_sy n) n' ((n, D) :: env) ((op, a, b, n) :: rl)))
def y_le (sg sg' : List Int32) : Prop := ∀ (i : Nat) (x : Int32), sg[i]? = some x → sg'[i]? = some x
theorem y_le_app (sg : List Int32) (x : Int32) : y_le sg (sg ++ [x]) := by
  intro i y h
  rw [List.getElem?_append_left (List.getElem?_eq_some_iff.mp h).1]
  exact h
theorem y_gi_mono {sg sg' : List Int32} (h : y_le sg sg') {a : yV} {x : Int32} (hg : y_gi sg a x) : y_gi sg' a x := by
  match a, hg with
  | .inl _, hg => exact hg
  | .inr (.inl i), hg => exact h i x hg
  | .inr (.inr _), hg => exact hg.elim
theorem y_erel_mono {sg sg' : List Int32} (h : y_le sg sg') {env : yEnv} (he : y_erel sg env) : y_erel sg' env := fun q hq => by
  obtain ⟨x, h1, h2⟩ := he q hq
  exact ⟨x, h _ _ h1, h2⟩
theorem y_rrel_mono {sg sg' : List Int32} (h : y_le sg sg') {rl : List yR} (hr : y_rrel sg rl) : y_rrel sg' rl := fun q hq => by
  obtain ⟨x, y, h1, h2, h3⟩ := hr q hq
  exact ⟨x, y, y_gi_mono h h1, y_gi_mono h h2, h _ _ h3⟩
theorem y_bin_ok {sg : List Int32} {op : Nat} {a b : yV} {n : Nat} {env : yEnv} {rl : List yR} {k : yV → Nat → yEnv → List yR → Bool} {x y : Int32} (h : y_bin op a b n env rl k = true) (hn : sg.length = n) (he : y_erel sg env) (hr : y_rrel sg rl) (hx : y_gi sg a x) (hy : y_gi sg b y) :
    ∃ sg' v n' env' rl', y_le sg sg' ∧ sg'.length = n' ∧ y_erel sg' env' ∧ y_rrel sg' rl' ∧ y_gi sg' v (y_op op x y) ∧ k v n' env' rl' = true := by
  obtain ⟨a', ha, h⟩ := y_rs_ok h he hx
  obtain ⟨b', hb, h⟩ := y_rs_ok h he hy
  have gen : y_bn1 op a' b' rl (fun u => k (.inl u) n env rl) (y_fnd op a' b' rl (fun d => k (y_sy d) n env rl) (y_dm env a' fun Da => y_dm env b' fun Db => y_dop op Da Db fun D => z_frc (n + 1) fun n' => k (y_sy n) n' ((n, D) :: env) ((op, a', b', n) :: rl))) = true → ∃ sg' v n' env' rl', y_le sg sg' ∧ sg'.length = n' ∧ y_erel sg' env' ∧ y_rrel sg' rl' ∧ y_gi sg' v (y_op op x y) ∧ k v n' env' rl' = true := by
    intro h
    rcases y_bn1_ok h hr ha hb with h | h
    · exact ⟨sg, .inl (z_un (y_op op x y)), n, env, rl, fun _ _ q => q, hn, he, hr, show y_op op x y = nI (z_un (y_op op x y)) from (z_nI_un _).symm, h⟩
    rcases y_fnd_ok h hr ha hb with ⟨d, g1, g2⟩ | h
    · exact ⟨sg, y_sy d, n, env, rl, fun _ _ q => q, hn, he, hr, g1, g2⟩
    · obtain ⟨Da, d1, h⟩ := y_dm_ok h he ha
      obtain ⟨Db, d2, h⟩ := y_dm_ok h he hb
      obtain ⟨D, d3, h⟩ := y_dop_ok h d1 d2
      rw [z_frc_eq] at h
      have hl := y_le_app sg (y_op op x y)
      have hz : (sg ++ [y_op op x y])[n]? = some (y_op op x y) := by
        rw [← hn, List.getElem?_append_right (Nat.le_refl _)]
        simp
      refine ⟨sg ++ [y_op op x y], y_sy n, n + 1, _, _, hl, by rw [List.length_append, hn]; rfl, y_erel_cons (y_erel_mono hl he) hz d3, fun q hq => ?_, hz, h⟩
      rcases List.mem_cons.mp hq with rfl | hq
      · exact ⟨x, y, y_gi_mono hl ha, y_gi_mono hl hb, hz⟩
      · exact y_rrel_mono hl hr q hq
  cases a' with
  | inr r => exact gen h
  | inl u =>
    cases b' with
    | inr r => exact gen h
    | inl v =>
      have ha : x = nI u := ha
      have hb : y = nI v := hb
      have h3 : z_frc (z_un (y_op op (nI u) (nI v))) (fun u => k (.inl u) n env rl) = true := h
      rw [z_frc_eq, ← ha, ← hb] at h3
      exact ⟨sg, .inl (z_un (y_op op x y)), n, env, rl, fun _ _ q => q, hn, he, hr, show y_op op x y = nI (z_un (y_op op x y)) from (z_nI_un _).symm, h3⟩
