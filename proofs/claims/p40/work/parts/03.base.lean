theorem z_nb (a b : Nat) : Nat.beq a b = true ↔ a = b := ⟨Nat.eq_of_beq_eq_true, fun h => by subst h; exact Nat.beq_refl a⟩
theorem z_nbe (a b : Nat) : (a == b) = Nat.beq a b := by
  rw [Bool.eq_iff_iff, z_nb]
  simp
theorem z_nI_un (x : Int32) : nI (z_un x) = x := by
  apply Int32.toBitVec_inj.mp
  show BitVec.ofNat 32 x.toBitVec.toNat = x.toBitVec
  simp
def z_b (x : Int32) : Nat := (x.toBitVec.toNat + 2147483648) % 4294967296
theorem z_b_int (x : Int32) : (z_b x : Int) = x.toInt + 2147483648 := by
  have h1 : x.toInt = x.toBitVec.toInt := rfl
  have h2 := x.toBitVec.isLt
  rw [h1, BitVec.toInt_eq_toNat_cond]
  unfold z_b
  split <;> omega
theorem z_b_nI (u : Nat) : z_b (nI u) = z_bu u := by
  have h : (nI u).toBitVec.toNat = u % 2 ^ 32 := by
    show (BitVec.ofNat 32 u).toNat = _
    exact BitVec.toNat_ofNat u 32
  unfold z_b z_bu
  rw [h]
  omega
theorem z_bu_b (x : Int32) : nI (z_bu (z_b x)) = x := by
  have h : z_bu (z_b x) = z_un x := by
    have h2 := x.toBitVec.isLt
    unfold z_bu z_b z_un
    omega
  rw [h, z_nI_un]
theorem z_blt (x y : Int32) : x < y ↔ z_b x < z_b y := by
  have h1 := z_b_int x
  have h2 := z_b_int y
  rw [Int32.lt_iff_toInt_lt]
  omega
theorem z_ble (x y : Int32) : x ≤ y ↔ z_b x ≤ z_b y := by
  have h1 := z_b_int x
  have h2 := z_b_int y
  rw [Int32.le_iff_toInt_le]
  omega
theorem z_beq (x y : Int32) : x = y ↔ z_b x = z_b y := by
  have h1 := z_b_int x
  have h2 := z_b_int y
  rw [← Int32.toInt_inj]
  omega
def z_hold (c : Jvm.ClassFile.Cond) (x y : Int32) : Prop := match c with
  | .eq => x = y
  | .ne => ¬ x = y
  | .lt => x < y
  | .ge => y ≤ x
  | .gt => y < x
  | .le => x ≤ y
theorem z_cmp_ok (c : Jvm.ClassFile.Cond) (x y : Int32) : z_cmp c (z_b x) (z_b y) = true ↔ z_hold c x y := by
  have h := z_beq x y
  have h1 := z_blt x y
  have h2 := z_blt y x
  have h3 := z_ble x y
  have h4 := z_ble y x
  cases c
  · show Nat.beq _ _ = true ↔ _
    rw [z_nb]; exact h.symm
  · have e : z_cmp .ne (z_b x) (z_b y) = !(Nat.beq (z_b x) (z_b y)) := rfl
    rw [e, Bool.not_eq_true', ← Bool.not_eq_true, z_nb]; exact not_congr h.symm
  · show Nat.ble (_ + 1) _ = true ↔ _
    rw [Nat.ble_eq]; exact h1.symm
  · show Nat.ble _ _ = true ↔ _
    rw [Nat.ble_eq]; exact h4.symm
  · show Nat.ble (_ + 1) _ = true ↔ _
    rw [Nat.ble_eq]; exact h2.symm
  · show Nat.ble _ _ = true ↔ _
    rw [Nat.ble_eq]; exact h3.symm
def z_erel (sg : Nat → Int32) (env : zEnv) : Prop := ∀ (i : Nat) (q : Nat × Nat), env[i]? = some q → q.1 ≤ z_b (sg i) ∧ z_b (sg i) ≤ q.2
theorem z_erel_set {sg : Nat → Int32} {env : zEnv} {i lo hi : Nat} (h : z_erel sg env) (h1 : lo ≤ z_b (sg i)) (h2 : z_b (sg i) ≤ hi) : z_erel sg (env.set i (lo, hi)) := by
  intro j q hq
  by_cases hj : i = j
  · subst hj
    by_cases hl : i < env.length
    · rw [List.getElem?_set_self hl] at hq
      cases hq
      exact ⟨h1, h2⟩
    · rw [List.getElem?_eq_none (by rw [List.length_set]; omega)] at hq
      cases hq
  · rw [List.getElem?_set_ne hj] at hq
    exact h j q hq
theorem z_spl_ok {sg : Nat → Int32} {env : zEnv} {i t : Nat} {L G : zEnv → Bool} (h : z_spl i env t L G = true) (he : z_erel sg env) : (z_b (sg i) < t → ∃ e, z_erel sg e ∧ L e = true) ∧ (¬ z_b (sg i) < t → ∃ e, z_erel sg e ∧ G e = true) := by
  unfold z_spl at h
  cases hq : env[i]? with
  | none => rw [hq] at h; cases h
  | some q =>
    obtain ⟨lo, hi⟩ := q
    rw [hq] at h
    dsimp only at h
    obtain ⟨a, b⟩ := he i (lo, hi) hq
    dsimp only at a b
    rw [Bool.and_eq_true] at h
    refine ⟨fun hx => ?_, fun hx => ?_⟩
    · have h1 := h.1
      rw [show Nat.blt lo t = true from by unfold Nat.blt; rw [Nat.ble_eq]; omega, cond_true, z_frc_eq, z_set_eq] at h1
      exact ⟨_, z_erel_set he a (by show _ ≤ min _ _; omega), h1⟩
    · have h1 := h.2
      rw [show Nat.ble t hi = true from by rw [Nat.ble_eq]; omega, cond_true, z_frc_eq, z_set_eq] at h1
      exact ⟨_, z_erel_set he (by show max _ _ ≤ _; omega) b, h1⟩
theorem z_brS_ok {sg : Nat → Int32} {env : zEnv} {i : Nat} {c : Jvm.ClassFile.Cond} {y : Int32} {T F : zEnv → Bool} (h : z_brS c i (z_b y) env T F = true) (he : z_erel sg env) : (z_hold c (sg i) y → ∃ e, z_erel sg e ∧ T e = true) ∧ (¬ z_hold c (sg i) y → ∃ e, z_erel sg e ∧ F e = true) := by
  have g0 := z_beq (sg i) y
  have g1 := z_blt (sg i) y
  have g2 := z_blt y (sg i)
  have g3 := z_ble (sg i) y
  have g4 := z_ble y (sg i)
  cases c
  · have h1 := z_spl_ok (sg := sg) h he
    refine ⟨fun q => ?_, fun q => ?_⟩
    · have q : sg i = y := q
      obtain ⟨e, e1, e2⟩ := h1.2 (by have := g0.mp q; omega)
      exact (z_spl_ok e2 e1).1 (by have := g0.mp q; omega)
    · have q : ¬ sg i = y := q
      by_cases hb : z_b (sg i) < z_b y
      · exact h1.1 hb
      · obtain ⟨e, e1, e2⟩ := h1.2 hb
        exact (z_spl_ok e2 e1).2 (by have := mt g0.mpr q; omega)
  · have h1 := z_spl_ok (sg := sg) h he
    refine ⟨fun q => ?_, fun q => ?_⟩
    · have q : ¬ sg i = y := q
      by_cases hb : z_b (sg i) < z_b y
      · exact h1.1 hb
      · obtain ⟨e, e1, e2⟩ := h1.2 hb
        exact (z_spl_ok e2 e1).2 (by have := mt g0.mpr q; omega)
    · have q : sg i = y := Classical.not_not.mp q
      obtain ⟨e, e1, e2⟩ := h1.2 (by have := g0.mp q; omega)
      exact (z_spl_ok e2 e1).1 (by have := g0.mp q; omega)
  · have h1 := z_spl_ok (sg := sg) h he
    exact ⟨fun q => h1.1 (g1.mp q), fun q => h1.2 (mt g1.mpr q)⟩
  · have h1 := z_spl_ok (sg := sg) h he
    exact ⟨fun q => h1.2 (by have := g4.mp q; omega), fun q => h1.1 (by have := mt g4.mpr q; omega)⟩
  · have h1 := z_spl_ok (sg := sg) h he
    exact ⟨fun q => h1.2 (by have := g2.mp q; omega), fun q => h1.1 (by have := mt g2.mpr q; omega)⟩
  · have h1 := z_spl_ok (sg := sg) h he
    exact ⟨fun q => h1.1 (by have := g3.mp q; omega), fun q => h1.2 (by have := mt g3.mpr q; omega)⟩
theorem z_alR_ok {lo n : Nat} {f : Nat → Bool} (h : z_alR lo n f = true) : ∀ j, j < n → f (lo + j) = true := by
  induction n with
  | zero => intro j hj; omega
  | succ n ih =>
    have h : and (f (lo + n)) (z_alR lo n f) = true := h
    rw [Bool.and_eq_true] at h
    intro j hj
    by_cases hjn : j = n
    · subst hjn; exact h.1
    · exact ih h.2 j (by omega)
theorem z_con_ok {sg : Nat → Int32} {env : zEnv} {i : Nat} {re : zEnv → Bool} (h : z_con env i re = true) (he : z_erel sg env) : ∃ e, z_erel sg e ∧ re e = true := by
  unfold z_con at h
  cases hq : env[i]? with
  | none => rw [hq] at h; cases h
  | some q =>
    rw [hq] at h
    dsimp only at h
    obtain ⟨a, b⟩ := he i q hq
    cases hc : Nat.ble (q.2 - q.1) 64 with
    | false => rw [hc] at h; cases h
    | true =>
      rw [hc, cond_true] at h
      have h1 := z_alR_ok h (z_b (sg i) - q.1) (by omega)
      rw [z_frc_eq, z_set_eq] at h1
      exact ⟨_, z_erel_set he (by omega) (by omega), h1⟩
/-- what a value stands for -/
def z_g (sg : Nat → Int32) (ad : List Nat) (b : Nat) : zAV → Value → Prop
  | .inl u, v => v = .int (nI u)
  | .inr (.inl i), v => v = .int (sg i)
  | .inr (.inr (.inl none)), v => v = .null
  | .inr (.inr (.inl (some k))), v => ∃ a, ad[k]? = some a ∧ v = .ref a
  | .inr (.inr (.inr 0)), v => ∃ x, v = .int x
  | .inr (.inr (.inr 1)), v => ∃ x, v = .long x
  | .inr (.inr (.inr _)), v => v = .ref b
def z_le (ad ad' : List Nat) : Prop := ∀ (k a : Nat), ad[k]? = some a → ad'[k]? = some a
theorem z_g_mono {sg : Nat → Int32} {ad ad' : List Nat} {b : Nat} (h : z_le ad ad') {a : zAV} {v : Value} (hg : z_g sg ad b a v) : z_g sg ad' b a v := by
  match a, hg with
  | .inl _, hg => exact hg
  | .inr (.inl _), hg => exact hg
  | .inr (.inr (.inl none)), hg => exact hg
  | .inr (.inr (.inl (some k))), hg =>
    obtain ⟨q, h1, h2⟩ := hg
    exact ⟨q, h k q h1, h2⟩
  | .inr (.inr (.inr 0)), hg => exact hg
  | .inr (.inr (.inr 1)), hg => exact hg
  | .inr (.inr (.inr (_ + 2))), hg => exact hg
theorem z_isI_ok {sg : Nat → Int32} {ad : List Nat} {b : Nat} {a : zAV} {v : Value} (h : z_isI a = true) (hg : z_g sg ad b a v) : ∃ x, v = .int x := by
  match a, h, hg with
  | .inl _, _, hg => exact ⟨_, hg⟩
  | .inr (.inl _), _, hg => exact ⟨_, hg⟩
  | .inr (.inr (.inl _)), h, _ => cases h
  | .inr (.inr (.inr 0)), _, hg => exact hg
  | .inr (.inr (.inr (_ + 1))), h, _ => cases h
theorem z_isR_ok {sg : Nat → Int32} {ad : List Nat} {b : Nat} {a : zAV} {v : Value} (h : z_isR a = true) (hg : z_g sg ad b a v) : v = .null ∨ ∃ q, v = .ref q := by
  match a, h, hg with
  | .inl _, h, _ => cases h
  | .inr (.inl _), h, _ => cases h
  | .inr (.inr (.inl none)), _, hg => exact Or.inl hg
  | .inr (.inr (.inl (some _))), _, hg =>
    obtain ⟨q, _, h2⟩ := hg
    exact Or.inr ⟨q, h2⟩
  | .inr (.inr (.inr 0)), h, _ => cases h
  | .inr (.inr (.inr 1)), h, _ => cases h
  | .inr (.inr (.inr (_ + 2))), _, hg => exact Or.inr ⟨b, hg⟩
theorem z_isO_ok {sg : Nat → Int32} {ad : List Nat} {b : Nat} {a : zAV} {v : Value} (h : z_isO a = true) (hg : z_g sg ad b a v) : v = .null ∨ ∃ q, v = .ref q := by
  match a, h, hg with
  | .inl _, h, _ => cases h
  | .inr (.inl _), h, _ => cases h
  | .inr (.inr (.inl none)), _, hg => exact Or.inl hg
  | .inr (.inr (.inl (some _))), _, hg =>
    obtain ⟨q, _, h2⟩ := hg
    exact Or.inr ⟨q, h2⟩
  | .inr (.inr (.inr _)), h, _ => cases h
theorem z_isB_ok {sg : Nat → Int32} {ad : List Nat} {b : Nat} {a : zAV} {v : Value} (h : z_isB a = true) (hg : z_g sg ad b a v) : v = .int 0 ∨ v = .int 1 := by
  match a, h, hg with
  | .inl 0, _, hg => exact Or.inl hg
  | .inl 1, _, hg => exact Or.inr hg
  | .inl (_ + 2), h, _ => cases h
  | .inr _, h, _ => cases h
theorem z_c1_ok {sg : Nat → Int32} {ad : List Nat} {b : Nat} {a : zAV} {v : Value} (h : z_c1 a = true) (hg : z_g sg ad b a v) : v.category = 1 := by
  match a, h, hg with
  | .inl _, _, hg => rw [hg]; rfl
  | .inr (.inl _), _, hg => rw [hg]; rfl
  | .inr (.inr (.inl none)), _, hg => rw [hg]; rfl
  | .inr (.inr (.inl (some _))), _, hg =>
    obtain ⟨q, _, h2⟩ := hg
    rw [h2]; rfl
  | .inr (.inr (.inr 0)), _, hg =>
    obtain ⟨q, h2⟩ := hg
    rw [h2]; rfl
  | .inr (.inr (.inr 1)), h, _ => cases h
  | .inr (.inr (.inr (_ + 2))), _, hg => rw [hg]; rfl
theorem z_fit_ok {sg : Nat → Int32} {ad : List Nat} {b : Nat} {a : zAV} {v : Value} {ty : FieldType} (h : z_fit ty a = true) (hg : z_g sg ad b a v) : narrow ty v = v ∧ fits ty v = true := by
  cases ty with
  | int => obtain ⟨x, rfl⟩ := z_isI_ok h hg; exact ⟨rfl, rfl⟩
  | boolean => rcases z_isB_ok h hg with rfl | rfl <;> exact ⟨by decide, by decide⟩
  | long =>
    match a, h, hg with
    | .inl _, h, _ => cases h
    | .inr (.inl _), h, _ => cases h
    | .inr (.inr (.inl _)), h, _ => cases h
    | .inr (.inr (.inr 0)), h, _ => cases h
    | .inr (.inr (.inr 1)), _, hg =>
      obtain ⟨x, rfl⟩ := hg
      exact ⟨rfl, rfl⟩
    | .inr (.inr (.inr (_ + 2))), h, _ => cases h
  | object n => rcases z_isO_ok h hg with rfl | ⟨q, rfl⟩ <;> exact ⟨rfl, rfl⟩
  | array n => rcases z_isO_ok h hg with rfl | ⟨q, rfl⟩ <;> exact ⟨rfl, rfl⟩
  | _ => cases h
theorem z_rs_ok {sg : Nat → Int32} {ad : List Nat} {b : Nat} {env : zEnv} (he : z_erel sg env) {a : zAV} {v : Value} (hg : z_g sg ad b a v) : z_g sg ad b (z_rs env a) v := by
  match a, hg with
  | .inl _, hg => exact hg
  | .inr (.inr _), hg => exact hg
  | .inr (.inl i), hg =>
    unfold z_rs
    dsimp only
    cases hq : env[i]? with
    | none => exact hg
    | some q =>
      dsimp only
      cases hb : Nat.beq q.1 q.2 with
      | false => exact hg
      | true =>
        have h1 := Nat.eq_of_beq_eq_true hb
        obtain ⟨h2, h3⟩ := he i q hq
        have h4 : q.1 = z_b (sg i) := by omega
        have hg : v = .int (sg i) := hg
        show v = .int (nI (z_bu q.1))
        rw [h4, z_bu_b]
        exact hg
theorem z_br_ok {sg : Nat → Int32} {ad : List Nat} {bb : Nat} {env : zEnv} {c : Jvm.ClassFile.Cond} {a b : zAV} {x y : Int32} {re T F : zEnv → Bool} (h : z_br c a b env re T F = true) (he : z_erel sg env) (ha : z_g sg ad bb a (.int x)) (hb : z_g sg ad bb b (.int y)) :
    ((z_hold c x y → ∃ e, z_erel sg e ∧ T e = true) ∧ (¬ z_hold c x y → ∃ e, z_erel sg e ∧ F e = true)) ∨ ∃ e, z_erel sg e ∧ re e = true := by
  match a, b, h, ha, hb with
  | .inl u, .inl v, h, ha, hb =>
    have ha : Value.int x = .int (nI u) := ha
    have hb : Value.int y = .int (nI v) := hb
    cases ha; cases hb
    have h : cond (z_cmp c (z_bu u) (z_bu v)) (T env) (F env) = true := h
    rw [← z_b_nI u, ← z_b_nI v] at h
    have hk := z_cmp_ok c (nI u) (nI v)
    cases hc : z_cmp c (z_b (nI u)) (z_b (nI v)) with
    | true =>
      rw [hc] at h hk
      exact Or.inl ⟨fun _ => ⟨env, he, h⟩, fun n => absurd (hk.mp rfl) n⟩
    | false =>
      rw [hc] at h hk
      exact Or.inl ⟨fun n => absurd (hk.mpr n) (by decide), fun _ => ⟨env, he, h⟩⟩
  | .inr (.inl i), .inl v, h, ha, hb =>
    have ha : Value.int x = .int (sg i) := ha
    have hb : Value.int y = .int (nI v) := hb
    cases ha; cases hb
    have h : z_brS c i (z_bu v) env T F = true := h
    rw [← z_b_nI v] at h
    exact Or.inl (z_brS_ok h he)
  | .inl u, .inr (.inl i), h, ha, hb =>
    have ha : Value.int x = .int (nI u) := ha
    have hb : Value.int y = .int (sg i) := hb
    cases ha; cases hb
    have h : z_brS (z_flip c) i (z_bu u) env T F = true := h
    rw [← z_b_nI u] at h
    have h2 := z_brS_ok (sg := sg) h he
    refine Or.inl ?_
    cases c
    · exact ⟨fun q => h2.1 (Eq.symm q), fun q => h2.2 (fun z => q (Eq.symm z))⟩
    · exact ⟨fun q => h2.1 (fun z => q (Eq.symm z)), fun q => h2.2 (fun z => q (fun w => z (Eq.symm w)))⟩
    · exact h2
    · exact h2
    · exact h2
    · exact h2
  | .inr (.inl i), .inr (.inl _), h, _, _ => exact Or.inr (z_con_ok h he)
  | .inr (.inr _), _, h, _, _ => cases h
  | .inl _, .inr (.inr _), h, _, _ => cases h
  | .inr (.inl _), .inr (.inr _), h, _, _ => cases h
theorem z_ix_ok {sg : Nat → Int32} {ad : List Nat} {bb : Nat} {env : zEnv} {a : zAV} {n : Nat} {v : Value} {re : zEnv → Bool} {k : Nat → Bool} (h : z_ix env a n re k = true) (he : z_erel sg env) (hg : z_g sg ad bb a v) :
    (∃ u, v = .int (nI u) ∧ vp_in (nI u) n ∧ (nI u).toNatClampNeg = u ∧ k u = true) ∨ ∃ e, z_erel sg e ∧ re e = true := by
  have h2 := z_rs_ok he hg
  unfold z_ix at h
  match z_rs env a, h, h2 with
  | .inl u, h, h2 =>
    have h : cond (and (Nat.blt u n) (Nat.ble n 2147483647)) (k u) false = true := h
    cases hc : and (Nat.blt u n) (Nat.ble n 2147483647) with
    | false => rw [hc] at h; cases h
    | true =>
      rw [hc] at h
      rw [Bool.and_eq_true] at hc
      have c1 : u + 1 ≤ n := Nat.le_of_ble_eq_true hc.1
      have c2 : n ≤ 2147483647 := Nat.le_of_ble_eq_true hc.2
      exact Or.inl ⟨u, h2, vp_in_nI (by omega) (by omega), nI_clamp (by omega), h⟩
  | .inr (.inl i), h, _ => exact Or.inr (z_con_ok h he)
  | .inr (.inr _), h, _ => cases h
theorem z_bin_ok {sg : Nat → Int32} {ad : List Nat} {bb : Nat} {env : zEnv} {f : Int32 → Int32 → Int32} {a b : zAV} {v1 v2 : Value} {k : zAV → Bool} (h : z_bin f env a b k = true) (he : z_erel sg env) (ha : z_g sg ad bb a v1) (hb : z_g sg ad bb b v2) :
    ∃ x y c, v1 = .int x ∧ v2 = .int y ∧ z_g sg ad bb c (.int (f x y)) ∧ k c = true := by
  have h1 := z_rs_ok he ha
  have h2 := z_rs_ok he hb
  unfold z_bin at h
  have key : ∀ a' b' : zAV, z_g sg ad bb a' v1 → z_g sg ad bb b' v2 → and (and (z_isI a') (z_isI b')) (k z_any) = true → ∃ x y c, v1 = .int x ∧ v2 = .int y ∧ z_g sg ad bb c (.int (f x y)) ∧ k c = true := by
    intro a' b' g1 g2 hh
    rw [Bool.and_eq_true, Bool.and_eq_true] at hh
    obtain ⟨x, hx⟩ := z_isI_ok hh.1.1 g1
    obtain ⟨y, hy⟩ := z_isI_ok hh.1.2 g2
    exact ⟨x, y, z_any, hx, hy, ⟨_, rfl⟩, hh.2⟩
  match z_rs env a, z_rs env b, h, h1, h2 with
  | .inl x, .inl y, h, h1, h2 =>
    have h : z_frc (z_un (f (nI x) (nI y))) (fun u => k (.inl u)) = true := h
    rw [z_frc_eq] at h
    exact ⟨nI x, nI y, _, h1, h2, by show Value.int _ = .int _; rw [z_nI_un], h⟩
  | .inl x, .inr y, h, h1, h2 => exact key _ _ h1 h2 h
  | .inr x, .inl y, h, h1, h2 => exact key _ _ h1 h2 h
  | .inr x, .inr y, h, h1, h2 => exact key _ _ h1 h2 h
-- stacks, places, cells
def z_SR (g : zAV → Value → Prop) : List zAV → List Value → Prop
  | [], [] => True
  | a :: as, v :: vs => g a v ∧ z_SR g as vs
  | _, _ => False
def z_LR (g : zAV → Value → Prop) : List (Nat × zAV) → List (Nat × Value) → Prop
  | [], [] => True
  | q :: qs, r :: rs => (q.1 = r.1 ∧ g q.2 r.2 ∧ r.2.category = 1) ∧ z_LR g qs rs
  | _, _ => False
theorem z_SR_mono {g g' : zAV → Value → Prop} (h : ∀ a v, g a v → g' a v) : ∀ {as : List zAV} {vs : List Value}, z_SR g as vs → z_SR g' as vs
  | [], [], _ => trivial
  | _ :: _, _ :: _, hs => ⟨h _ _ hs.1, z_SR_mono h hs.2⟩
  | [], _ :: _, hs => hs.elim
  | _ :: _, [], hs => hs.elim
theorem z_LR_mono {g g' : zAV → Value → Prop} (h : ∀ a v, g a v → g' a v) : ∀ {as : List (Nat × zAV)} {vs : List (Nat × Value)}, z_LR g as vs → z_LR g' as vs
  | [], [], _ => trivial
  | _ :: _, _ :: _, hs => ⟨⟨hs.1.1, h _ _ hs.1.2.1, hs.1.2.2⟩, z_LR_mono h hs.2⟩
  | [], _ :: _, hs => hs.elim
  | _ :: _, [], hs => hs.elim
theorem z_SR_len {g : zAV → Value → Prop} : ∀ {as : List zAV} {vs : List Value}, z_SR g as vs → as.length = vs.length
  | [], [], _ => rfl
  | _ :: _, _ :: _, hs => by simp [z_SR_len hs.2]
  | [], _ :: _, hs => hs.elim
  | _ :: _, [], hs => hs.elim
theorem z_SR_get {g : zAV → Value → Prop} : ∀ {as : List zAV} {vs : List Value} {k : Nat} {a : zAV}, z_SR g as vs → as[k]? = some a → ∃ v, vs[k]? = some v ∧ g a v
  | [], [], k, _, _, h => by simp at h
  | _ :: _, _ :: _, 0, _, hs, h => by simp at h; subst h; exact ⟨_, rfl, hs.1⟩
  | _ :: as, _ :: vs, k + 1, _, hs, h => by simpa using z_SR_get (as := as) (vs := vs) (k := k) hs.2 (by simpa using h)
  | [], _ :: _, _, _, hs, _ => hs.elim
  | _ :: _, [], _, _, hs, _ => hs.elim
theorem z_SR_set {g : zAV → Value → Prop} {a : zAV} {v : Value} (hg : g a v) : ∀ {as : List zAV} {vs : List Value} (k : Nat), z_SR g as vs → z_SR g (as.set k a) (vs.set k v)
  | [], [], _, hs => hs
  | _ :: _, _ :: _, 0, hs => ⟨hg, hs.2⟩
  | _ :: _, _ :: _, k + 1, hs => ⟨hs.1, z_SR_set hg k hs.2⟩
  | [], _ :: _, _, hs => hs.elim
  | _ :: _, [], _, hs => hs.elim
theorem z_SR_split {g : zAV → Value → Prop} : ∀ {xs t : List zAV} {vs : List Value}, z_SR g (xs ++ t) vs → ∃ cx ct, vs = cx ++ ct ∧ z_SR g xs cx ∧ z_SR g t ct
  | [], t, vs, h => ⟨[], vs, rfl, trivial, h⟩
  | _ :: xs, t, v :: vs, h => by
    obtain ⟨cx, ct, h1, h2, h3⟩ := z_SR_split (xs := xs) (t := t) h.2
    exact ⟨v :: cx, ct, by rw [h1]; rfl, ⟨h.1, h2⟩, h3⟩
  | _ :: _, _, [], h => h.elim
theorem z_SR_app {g : zAV → Value → Prop} : ∀ {xs t : List zAV} {cx ct : List Value}, z_SR g xs cx → z_SR g t ct → z_SR g (xs ++ t) (cx ++ ct)
  | [], _, [], _, _, h => h
  | _ :: _, _, _ :: _, _, h, h2 => ⟨h.1, z_SR_app h.2 h2⟩
  | [], _, _ :: _, _, h, _ => h.elim
  | _ :: _, _, [], _, h, _ => h.elim
theorem z_SR_rev {g : zAV → Value → Prop} : ∀ {xs : List zAV} {cx : List Value}, z_SR g xs cx → z_SR g xs.reverse cx.reverse
  | [], [], h => h
  | _ :: _, _ :: _, h => by
    rw [List.reverse_cons, List.reverse_cons]
    exact z_SR_app (z_SR_rev h.2) ⟨h.1, trivial⟩
  | [], _ :: _, h => h.elim
  | _ :: _, [], h => h.elim
theorem z_all_cons {f : zAV → Bool} {a : zAV} {l : List zAV} (h : z_all f (a :: l) = true) : f a = true ∧ z_all f l = true := by
  have h : and (f a) (z_all f l) = true := h
  rwa [Bool.and_eq_true] at h
theorem z_SR_cat {g : zAV → Value → Prop} (hg : ∀ a v, z_c1 a = true → g a v → v.category = 1) : ∀ {as : List zAV} {vs : List Value}, z_all z_c1 as = true → z_SR g as vs → (vs.map fun v => v.category).sum = vs.length
  | [], [], _, _ => rfl
  | _ :: _, _ :: vs, h, hs => by
    obtain ⟨h1, h2⟩ := z_all_cons h
    have := z_SR_cat hg h2 hs.2
    simp [hg _ _ h1 hs.1, this]
    omega
  | [], _ :: _, _, hs => hs.elim
  | _ :: _, [], _, hs => hs.elim
theorem z_pop_ok {n : Nat} : ∀ {acc st : List zAV} {k : List zAV → List zAV → Bool}, z_pop n acc st k = true → ∃ xs t, xs.length = n ∧ st = xs ++ t ∧ k (xs.reverse ++ acc) t = true := by
  induction n with
  | zero => intro acc st k h; exact ⟨[], st, rfl, rfl, h⟩
  | succ n ih =>
    intro acc st k h
    cases st with
    | nil => cases h
    | cons a t =>
      have h : z_pop n (a :: acc) t k = true := h
      obtain ⟨xs, t', h1, h2, h3⟩ := ih h
      exact ⟨a :: xs, t', by simp [h1], by rw [h2]; rfl, by simpa using h3⟩
theorem z_LR_lk {g : zAV → Value → Prop} {i : Nat} {a : zAV} : ∀ {lo : List (Nat × zAV)} {lv : List (Nat × Value)}, z_LR g lo lv → z_lk lo i = some a → ∃ (k : Nat) (v : Value), lv[k]? = some (i, v) ∧ g a v ∧ v.category = 1
  | [], [], _, h => by cases h
  | q :: qs, r :: rs, hs, h => by
    have h : cond (Nat.beq q.1 i) (some q.2) (z_lk qs i) = some a := h
    cases hb : Nat.beq q.1 i with
    | true =>
      rw [hb] at h
      cases h
      have := Nat.eq_of_beq_eq_true hb
      refine ⟨0, r.2, ?_, hs.1.2⟩
      show some r = _
      rw [← this, hs.1.1]
    | false =>
      rw [hb] at h
      obtain ⟨k, v, h1, h2⟩ := z_LR_lk hs.2 h
      exact ⟨k + 1, v, by simpa using h1, h2⟩
  | [], _ :: _, hs, _ => hs.elim
  | _ :: _, [], hs, _ => hs.elim
theorem z_LR_del {g : zAV → Value → Prop} (i : Nat) : ∀ {lo : List (Nat × zAV)} {lv : List (Nat × Value)}, z_LR g lo lv → z_LR g (lo.filter (fun q => !(Nat.beq q.1 i))) (lv.filter (fun q => !(q.1 == i) && !(q.1 + 1 == i && q.2.category == 2)))
  | [], [], _ => trivial
  | q :: qs, r :: rs, hs => by
    have h1 := z_LR_del i hs.2
    have hc : (!(r.1 == i) && !(r.1 + 1 == i && r.2.category == 2)) = !(Nat.beq q.1 i) := by
      rw [hs.1.2.2, hs.1.1]
      simp [z_nbe]
      exact fun _ => Or.inr rfl
    rw [List.filter_cons, List.filter_cons, hc]
    cases hb : Nat.beq q.1 i
    · exact ⟨hs.1, h1⟩
    · exact h1
  | [], _ :: _, hs => hs.elim
  | _ :: _, [], hs => hs.elim
theorem z_en_ok {g : zAV → Value → Prop} (hg : ∀ a v, z_arg a = true → g a v → v.category = 1) : ∀ {as : List zAV} {vs : List Value} (i : Nat), z_all z_arg as = true → z_SR g as vs → z_LR g (z_en as i) (lv_args i vs) ∧ (lg_sl vs).length = vs.length
  | [], [], _, _, _ => ⟨trivial, rfl⟩
  | a :: as, v :: vs, i, h, hs => by
    obtain ⟨h1, h2⟩ := z_all_cons h
    have hc := hg _ _ h1 hs.1
    have ih := z_en_ok hg (i + 1) h2 hs.2
    have e : lv_args i (v :: vs) = (i, v) :: lv_args (i + 1) vs := by
      show (i, v) :: lv_args (if v.category = 2 then i + 2 else i + 1) vs = _
      rw [if_neg (by omega)]
    rw [e]
    refine ⟨⟨⟨rfl, hs.1, hc⟩, ih.1⟩, ?_⟩
    have e2 : lg_sl (v :: vs) = .val v :: lg_sl vs := by
      unfold lg_sl
      rw [List.flatMap_cons, if_neg (by omega)]
      rfl
    rw [e2]
    simp [ih.2]
  | [], _ :: _, _, _, hs => hs.elim
  | _ :: _, [], _, _, hs => hs.elim
