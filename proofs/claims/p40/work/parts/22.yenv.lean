-- values: a number; a sign; null, or an object (its number, and the sign that says whether it is one: 0 none needed); 1 a long, 2 the script, 3 and on a text
abbrev yV : Type := Nat ⊕ (Nat ⊕ (Option (Nat × Nat) ⊕ Nat))
abbrev yEnv : Type := List (Nat × yD)
abbrev yR : Type := Nat × yV × yV × Nat
abbrev y_sy (i : Nat) : yV := .inr (.inl i)
def y_gi (sg : List Int32) : yV → Int32 → Prop
  | .inl u, x => x = nI u
  | .inr (.inl i), x => sg[i]? = some x
  | _, _ => False
def y_erel (sg : List Int32) (env : yEnv) : Prop := ∀ q ∈ env, ∃ x, sg[q.1]? = some x ∧ y_in q.2 (z_b x)
def y_rrel (sg : List Int32) (rl : List yR) : Prop := ∀ q ∈ rl, ∃ x y, y_gi sg q.2.1 x ∧ y_gi sg q.2.2.1 y ∧ sg[q.2.2.2]? = some (y_op q.1 x y)
theorem y_erel_cons {sg : List Int32} {env : yEnv} {i : Nat} {D : yD} {x : Int32} (he : y_erel sg env) (hx : sg[i]? = some x) (hD : y_in D (z_b x)) : y_erel sg ((i, D) :: env) := by
  intro q hq
  rcases List.mem_cons.mp hq with rfl | hq
  · exact ⟨x, hx, hD⟩
  · exact he q hq
noncomputable def y_lk (env : yEnv) (i : Nat) (k : yD → Bool) : Bool := y_fl (fun q r => cond (Nat.beq q.1 i) (k q.2) r) false env
theorem y_lk_ok {sg : List Int32} {env : yEnv} {i : Nat} {k : yD → Bool} {x : Int32} (h : y_lk env i k = true) (he : y_erel sg env) (hx : sg[i]? = some x) : ∃ D, y_in D (z_b x) ∧ k D = true := by
  induction env with
  | nil => cases h
  | cons q env ih =>
    have h : cond (Nat.beq q.1 i) (k q.2) (y_lk env i k) = true := h
    rcases y_bool h with ⟨hc, h⟩ | ⟨_, h⟩
    · obtain ⟨x', h1, h2⟩ := he q List.mem_cons_self
      rw [Nat.eq_of_beq_eq_true hc, hx] at h1
      cases h1
      exact ⟨q.2, h2, h⟩
    · exact ih h (fun p hp => he p (List.mem_cons_of_mem _ hp))
noncomputable def y_dm (env : yEnv) (v : yV) (k : yD → Bool) : Bool := match v with
  | .inl u => z_frc (z_bu u) fun b => k [(b, b)]
  | .inr (.inl i) => y_lk env i k
  | _ => false
theorem y_dm_ok {sg : List Int32} {env : yEnv} {v : yV} {k : yD → Bool} {x : Int32} (h : y_dm env v k = true) (he : y_erel sg env) (hx : y_gi sg v x) : ∃ D, y_in D (z_b x) ∧ k D = true := by
  cases v with
  | inl u =>
    have h : z_frc (z_bu u) (fun b => k [(b, b)]) = true := h
    rw [z_frc_eq] at h
    have hx : x = nI u := hx
    have e := z_b_nI u
    rw [← hx] at e
    rw [← e] at h
    exact ⟨[(z_b x, z_b x)], y_in_iv (Nat.le_refl _) (Nat.le_refl _), h⟩
  | inr r =>
    cases r with
    | inl i => exact y_lk_ok h he hx
    | inr _ => cases h
/-- a sign of which one number is left is that number -/
noncomputable def y_pt (D : yD) (k : Nat → Bool) (f : Bool) : Bool := match D with
  | [(a, b)] => cond (Nat.beq a b) (k a) f
  | _ => f
noncomputable def y_rs (env : yEnv) (v : yV) (k : yV → Bool) : Bool := match v with
  | .inr (.inl i) => y_lk env i fun D => y_pt D (fun a => z_frc (z_bu a) fun u => k (.inl u)) (k v)
  | _ => k v
theorem y_pt_ok {D : yD} {k : Nat → Bool} {f : Bool} {n : Nat} (h : y_pt D k f = true) (hn : y_in D n) : k n = true ∨ f = true := by
  unfold y_pt at h
  split at h
  · rename_i a b
    rcases y_bool h with ⟨hc, h⟩ | ⟨_, h⟩
    · have hc := Nat.eq_of_beq_eq_true hc
      rcases y_in_cons.mp hn with q | q
      · have : a = n := by have := q.1; have := q.2; dsimp only at *; omega
        subst this
        exact Or.inl h
      · exact absurd q y_in_nil
    · exact Or.inr h
  · exact Or.inr h
theorem y_rs_ok {sg : List Int32} {env : yEnv} {v : yV} {k : yV → Bool} {x : Int32} (h : y_rs env v k = true) (he : y_erel sg env) (hx : y_gi sg v x) : ∃ v', y_gi sg v' x ∧ k v' = true := by
  match v, h, hx with
  | .inl u, h, hx => exact ⟨_, hx, h⟩
  | .inr (.inl i), h, hx =>
    have h : y_lk env i (fun D => y_pt D (fun a => z_frc (z_bu a) fun u => k (.inl u)) (k (.inr (.inl i)))) = true := h
    obtain ⟨D, h1, h2⟩ := y_lk_ok h he hx
    rcases y_pt_ok h2 h1 with h3 | h3
    · rw [z_frc_eq] at h3
      exact ⟨.inl (z_bu (z_b x)), (z_bu_b x).symm, h3⟩
    · exact ⟨_, hx, h3⟩
  | .inr (.inr _), h, hx => exact hx.elim
/-- a value lies between -/
noncomputable def y_ne (E : yD) (k : yD → Bool) : Bool := match E with
  | [] => true
  | p :: r => k (p :: r)
noncomputable def y_rf (env : yEnv) (v : yV) (a b : Nat) (k : yEnv → Bool) : Bool := match v with
  | .inl u => cond (and (Nat.ble a (z_bu u)) (Nat.ble (z_bu u) b)) (k env) true
  | .inr (.inl i) => y_lk env i fun D => cond (and (Nat.ble a (y_min D)) (Nat.ble (y_max D) b)) (k env) (y_cut D a b fun E => y_ne E fun E => k ((i, E) :: env))
  | _ => false
theorem y_ne_ok {E : yD} {k : yD → Bool} {n : Nat} (h : y_ne E k = true) (hn : y_in E n) : k E = true := by
  cases E with
  | nil => exact absurd hn y_in_nil
  | cons p r => exact h
theorem y_rf_ok {sg : List Int32} {env : yEnv} {v : yV} {a b : Nat} {k : yEnv → Bool} {x : Int32} (h : y_rf env v a b k = true) (he : y_erel sg env) (hx : y_gi sg v x) (h1 : a ≤ z_b x) (h2 : z_b x ≤ b) : ∃ env', y_erel sg env' ∧ k env' = true := by
  match v, h, hx with
  | .inl u, h, hx =>
    have h : cond (and (Nat.ble a (z_bu u)) (Nat.ble (z_bu u) b)) (k env) true = true := h
    have hx : x = nI u := hx
    have e := z_b_nI u
    rw [← hx] at e
    rw [← e, (Nat.ble_eq).mpr h1, (Nat.ble_eq).mpr h2] at h
    exact ⟨env, he, h⟩
  | .inr (.inl i), h, hx =>
    have h : y_lk env i (fun D => cond (and (Nat.ble a (y_min D)) (Nat.ble (y_max D) b)) (k env) (y_cut D a b fun E => y_ne E fun E => k ((i, E) :: env))) = true := h
    obtain ⟨D, d1, d2⟩ := y_lk_ok h he hx
    have d2 : k env = true ∨ y_cut D a b (fun E => y_ne E fun E => k ((i, E) :: env)) = true := by
      cases hc : and (Nat.ble a (y_min D)) (Nat.ble (y_max D) b) with
      | true => rw [hc] at d2; exact Or.inl d2
      | false => rw [hc] at d2; exact Or.inr d2
    rcases d2 with d2 | d2
    · exact ⟨env, he, d2⟩
    obtain ⟨E, e1, e2⟩ := y_cut_ok (β := Bool) (D := D) (a := a) (b := b)
    rw [e1] at d2
    have d3 := e2 _ d1 h1 h2
    exact ⟨_, y_erel_cons he hx d3, y_ne_ok d2 d3⟩
  | .inr (.inr _), h, hx => exact hx.elim
/-- a value is not this number -/
noncomputable def y_rw (env : yEnv) (v : yV) (a : Nat) (k : yEnv → Bool) : Bool := match v with
  | .inl u => cond (Nat.beq a (z_bu u)) true (k env)
  | .inr (.inl i) => y_lk env i fun D => y_wo D a fun E => y_ne E fun E => k ((i, E) :: env)
  | _ => false
theorem y_rw_ok {sg : List Int32} {env : yEnv} {v : yV} {a : Nat} {k : yEnv → Bool} {x : Int32} (h : y_rw env v a k = true) (he : y_erel sg env) (hx : y_gi sg v x) (h1 : z_b x ≠ a) : ∃ env', y_erel sg env' ∧ k env' = true := by
  match v, h, hx with
  | .inl u, h, hx =>
    have h : cond (Nat.beq a (z_bu u)) true (k env) = true := h
    have hx : x = nI u := hx
    have e := z_b_nI u
    rw [← hx] at e
    rcases y_bool h with ⟨hc, _⟩ | ⟨_, h⟩
    · exact absurd (by rw [e]; exact (Nat.eq_of_beq_eq_true hc).symm) h1
    · exact ⟨env, he, h⟩
  | .inr (.inl i), h, hx =>
    have h : y_lk env i (fun D => y_wo D a fun E => y_ne E fun E => k ((i, E) :: env)) = true := h
    obtain ⟨D, d1, d2⟩ := y_lk_ok h he hx
    obtain ⟨E, e1, e2⟩ := y_wo_ok (β := Bool) (D := D) (a := a)
    rw [e1] at d2
    have d3 := e2 _ d1 h1
    exact ⟨_, y_erel_cons he hx d3, y_ne_ok d2 d3⟩
  | .inr (.inr _), h, hx => exact hx.elim
/-- what holds, taken in -/
noncomputable def y_lt (a b : yV) (env : yEnv) (k : yEnv → Bool) : Bool := y_dm env b fun Db => z_frc (y_max Db) fun hb => cond (Nat.beq hb 0) true (y_rf env a 0 (hb - 1) fun env => y_dm env a fun Da => z_frc (y_min Da) fun la => y_rf env b (la + 1) 4294967295 k)
noncomputable def y_ge (a b : yV) (env : yEnv) (k : yEnv → Bool) : Bool := y_dm env b fun Db => z_frc (y_min Db) fun lb => y_rf env a lb 4294967295 fun env => y_dm env a fun Da => z_frc (y_max Da) fun ha => y_rf env b 0 ha k
noncomputable def y_eq (a b : yV) (env : yEnv) (k : yEnv → Bool) : Bool := y_dm env b fun Db => y_hull Db fun lb hb => y_rf env a lb hb fun env => y_dm env a fun Da => y_hull Da fun la ha => y_rf env b la ha k
noncomputable def y_un (a b : yV) (env : yEnv) (k : yEnv → Bool) : Bool := y_dm env b fun Db => y_hull Db fun lb hb => cond (Nat.beq lb hb) (y_rw env a lb k) (y_dm env a fun Da => y_hull Da fun la ha => cond (Nat.beq la ha) (y_rw env b la k) (k env))
noncomputable def y_as (c : Jvm.ClassFile.Cond) (a b : yV) (env : yEnv) (k : yEnv → Bool) : Bool := match c with
  | .lt => y_lt a b env k
  | .ge => y_ge a b env k
  | .gt => y_lt b a env k
  | .le => y_ge b a env k
  | .eq => y_eq a b env k
  | .ne => y_un a b env k
theorem y_b_lt (x : Int32) : z_b x ≤ 4294967295 := by
  unfold z_b
  omega
section YA
variable {sg : List Int32} {env : yEnv} {a b : yV} {k : yEnv → Bool} {x y : Int32}
theorem y_lt_ok (h : y_lt a b env k = true) (he : y_erel sg env) (hx : y_gi sg a x) (hy : y_gi sg b y) (hl : z_b x < z_b y) : ∃ env', y_erel sg env' ∧ k env' = true := by
  obtain ⟨Db, d1, h⟩ := y_dm_ok h he hy
  rw [z_frc_eq] at h
  have m := y_le_max d1
  rcases y_bool h with ⟨hc, _⟩ | ⟨_, h⟩
  · have := Nat.eq_of_beq_eq_true hc
    omega
  · obtain ⟨e1, he1, h⟩ := y_rf_ok h he hx (Nat.zero_le _) (by omega)
    obtain ⟨Da, d2, h⟩ := y_dm_ok h he1 hx
    rw [z_frc_eq] at h
    have m2 := y_min_le d2
    exact y_rf_ok h he1 hy (by omega) (y_b_lt y)
theorem y_ge_ok (h : y_ge a b env k = true) (he : y_erel sg env) (hx : y_gi sg a x) (hy : y_gi sg b y) (hl : z_b y ≤ z_b x) : ∃ env', y_erel sg env' ∧ k env' = true := by
  obtain ⟨Db, d1, h⟩ := y_dm_ok h he hy
  rw [z_frc_eq] at h
  have m := y_min_le d1
  obtain ⟨e1, he1, h⟩ := y_rf_ok h he hx (by omega) (y_b_lt x)
  obtain ⟨Da, d2, h⟩ := y_dm_ok h he1 hx
  rw [z_frc_eq] at h
  have m2 := y_le_max d2
  exact y_rf_ok h he1 hy (Nat.zero_le _) (by omega)
theorem y_eq_ok (h : y_eq a b env k = true) (he : y_erel sg env) (hx : y_gi sg a x) (hy : y_gi sg b y) (hl : z_b x = z_b y) : ∃ env', y_erel sg env' ∧ k env' = true := by
  obtain ⟨Db, d1, h⟩ := y_dm_ok h he hy
  have h := y_hull_ok h
  have m1 := y_min_le d1
  have m2 := y_le_max d1
  obtain ⟨e1, he1, h⟩ := y_rf_ok h he hx (by omega) (by omega)
  obtain ⟨Da, d2, h⟩ := y_dm_ok h he1 hx
  have h := y_hull_ok h
  have m3 := y_min_le d2
  have m4 := y_le_max d2
  exact y_rf_ok h he1 hy (by omega) (by omega)
theorem y_un_ok (h : y_un a b env k = true) (he : y_erel sg env) (hx : y_gi sg a x) (hy : y_gi sg b y) (hl : z_b x ≠ z_b y) : ∃ env', y_erel sg env' ∧ k env' = true := by
  obtain ⟨Db, d1, h⟩ := y_dm_ok h he hy
  have h := y_hull_ok h
  have m1 := y_min_le d1
  have m2 := y_le_max d1
  rcases y_bool h with ⟨hc, h⟩ | ⟨_, h⟩
  · have hc := Nat.eq_of_beq_eq_true hc
    exact y_rw_ok h he hx (by omega)
  · obtain ⟨Da, d2, h⟩ := y_dm_ok h he hx
    have h := y_hull_ok h
    have m3 := y_min_le d2
    have m4 := y_le_max d2
    rcases y_bool h with ⟨hc, h⟩ | ⟨_, h⟩
    · have hc := Nat.eq_of_beq_eq_true hc
      exact y_rw_ok h he hy (by omega)
    · exact ⟨env, he, h⟩
theorem y_as_ok {c : Jvm.ClassFile.Cond} (h : y_as c a b env k = true) (he : y_erel sg env) (hx : y_gi sg a x) (hy : y_gi sg b y) (hl : z_hold c x y) : ∃ env', y_erel sg env' ∧ k env' = true := by
  have g0 := z_beq x y
  have g1 := z_blt x y
  have g2 := z_blt y x
  have g3 := z_ble x y
  have g4 := z_ble y x
  cases c
  · exact y_eq_ok h he hx hy (g0.mp hl)
  · exact y_un_ok h he hx hy (fun q => hl (g0.mpr q))
  · exact y_lt_ok h he hx hy (g1.mp hl)
  · exact y_ge_ok h he hx hy (g4.mp hl)
  · exact y_lt_ok h he hy hx (g2.mp hl)
  · exact y_ge_ok h he hy hx (g3.mp hl)
end YA
def y_neg : Jvm.ClassFile.Cond → Jvm.ClassFile.Cond
  | .lt => .ge
  | .ge => .lt
  | .le => .gt
  | .gt => .le
  | .eq => .ne
  | .ne => .eq
theorem y_neg_ok {c : Jvm.ClassFile.Cond} {x y : Int32} (h : ¬ z_hold c x y) : z_hold (y_neg c) x y := by
  have g1 := z_blt x y
  have g2 := z_blt y x
  have g3 := z_ble x y
  have g4 := z_ble y x
  cases c
  · exact h
  · exact Classical.not_not.mp h
  · exact g4.mpr (by have := mt g1.mpr h; omega)
  · exact g1.mpr (by have := mt g4.mpr h; omega)
  · exact g3.mpr (by have := mt g2.mpr h; omega)
  · exact g2.mpr (by have := mt g3.mpr h; omega)
