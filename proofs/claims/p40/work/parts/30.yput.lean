-- what a write leaves
noncomputable def y_okT (fty : FieldType) (t : yT) : Bool := match fty, t with
  | .int, .inl _ => true
  | .boolean, .inl D => y_sub D [(2147483648, 2147483649)]
  | .long, .inr (.inr n) => Nat.beq n 0
  | .object _, .inr (.inl _) => true
  | .object _, .inr (.inr n) => or (Nat.beq n 1) (Nat.beq n 3)
  | .array _, .inr (.inl _) => true
  | .array _, .inr (.inr n) => Nat.beq n 2
  | _, _ => false
theorem y_bit {x : Int32} (h : y_in [(2147483648, 2147483649)] (z_b x)) : x = 0 ∨ x = 1 := by
  have h1 := z_bu_b x
  rcases y_in_cons.mp h with q | q
  · have q1 := q.1
    have q2 := q.2
    dsimp only at q1 q2
    have : z_b x = 2147483648 ∨ z_b x = 2147483649 := by omega
    rcases this with e | e
    · rw [e] at h1; exact Or.inl h1.symm
    · rw [e] at h1; exact Or.inr h1.symm
  · exact absurd q y_in_nil
section YC
variable {tb : yTb} {ρ : yRo} {b : Nat → Nat} {env : yEnv} {cls : List vw_C} {tys : List (ClassId × FieldType)} {cw : va_W} {ad : List Nat} {tg : List yC} {wr : yWr} {n0 : Nat}
theorem y_okT_ok {fty : FieldType} {t : yT} {w : Value} (h : y_okT fty t = true) (hw : y_tv tb ad tg t w) : narrow fty w = w ∧ fits fty w = true := by
  cases fty with
  | int =>
    cases t with
    | inl D => obtain ⟨x, rfl, _⟩ := hw; exact ⟨rfl, rfl⟩
    | inr r => cases h
  | boolean =>
    cases t with
    | inl D =>
      obtain ⟨x, rfl, hD⟩ := hw
      rcases y_bit (y_sub_ok h hD) with rfl | rfl <;> exact ⟨by decide, by decide⟩
    | inr r => cases h
  | long =>
    cases t with
    | inl D => cases h
    | inr r =>
      cases r with
      | inl ks => cases h
      | inr n =>
        have h := Nat.eq_of_beq_eq_true h
        subst h
        obtain ⟨x, rfl⟩ := hw
        exact ⟨rfl, rfl⟩
  | object nm =>
    cases t with
    | inl D => cases h
    | inr r =>
      cases r with
      | inl ks => obtain ⟨k, _, a, _, rfl⟩ := hw; exact ⟨rfl, rfl⟩
      | inr n =>
        have h : or (Nat.beq n 1) (Nat.beq n 3) = true := h
        rw [Bool.or_eq_true] at h
        rcases h with h | h
        · have h := Nat.eq_of_beq_eq_true h
          subst h
          rcases hw with rfl | ⟨p, a, _, _, _, rfl⟩ <;> exact ⟨rfl, rfl⟩
        · have h := Nat.eq_of_beq_eq_true h
          subst h
          obtain ⟨p, a, _, _, _, rfl⟩ := hw
          exact ⟨rfl, rfl⟩
  | array nm =>
    cases t with
    | inl D => cases h
    | inr r =>
      cases r with
      | inl ks => obtain ⟨k, _, a, _, rfl⟩ := hw; exact ⟨rfl, rfl⟩
      | inr n =>
        have h := Nat.eq_of_beq_eq_true h
        subst h
        obtain ⟨p, a, _, _, _, rfl⟩ := hw
        exact ⟨rfl, rfl⟩
  | _ => cases t <;> cases h
theorem y_WT_set {p a : Nat} {e e' : va_E} {t : yC} (hW : y_WT tb cls tys tg cw) (hc : cw[p]? = some (a, e)) (ht : tg[p]? = some t) (he' : y_ET tb cls (cw.map Prod.fst) tg tys t e') : y_WT tb cls tys tg (cw.set p (a, e')) := by
  refine ⟨by rw [List.length_set]; exact hW.1, hW.2.1, fun p' e1 t1 h1 h2 => ?_⟩
  rw [z_fst_set hc]
  by_cases hp : p = p'
  · subst hp
    rw [List.getElem?_set_self (List.getElem?_eq_some_iff.mp hc).1] at h1
    cases h1
    rw [ht] at h2
    cases h2
    exact he'
  · rw [List.getElem?_set_ne hp] at h1
    exact hW.2.2 p' e1 t1 h1 h2
theorem y_same_obj {p a ci f : Nat} {vs : List Value} {w : Value} (hc : cw[p]? = some (a, .inr (ci, vs))) (h1 : p < n0 → (p, f) ∈ wr.1) (h2 : n0 ≤ p → wr.2.2 = true) : y_same n0 wr cw (cw.set p (a, .inr (ci, vs.set f w))) := by
  refine ⟨by rw [z_fst_set hc]; exact fun _ _ h => h, fun p' a' ci' vs' h => ?_, fun p' e h ⟨x, hx⟩ _ _ => ?_⟩
  · by_cases hp : p = p'
    · subst hp
      rw [hc] at h
      cases h
      refine ⟨vs.set f w, List.getElem?_set_self (List.getElem?_eq_some_iff.mp hc).1, fun g q1 q2 => ?_⟩
      by_cases hg : f = g
      · subst hg
        by_cases hl : p < n0
        · exact absurd (h1 hl) (q1 hl)
        · have := h2 (by omega)
          rw [q2 (by omega)] at this
          cases this
      · exact List.getElem?_set_ne hg
    · exact ⟨vs', by rw [List.getElem?_set_ne hp]; exact h, fun _ _ _ => rfl⟩
  · by_cases hp : p = p'
    · subst hp
      rw [hc] at h
      cases h
      cases hx
    · rw [List.getElem?_set_ne hp]; exact h
theorem y_same_row {p a : Nat} {x x' : ClassId × Nat × ((Nat → Int32) ⊕ (Nat → Int64) ⊕ (Nat → UInt32) ⊕ (Nat → UInt64) ⊕ (Nat → Option Nat))} (hc : cw[p]? = some (a, .inl x)) (h1 : p < n0 → p ∈ wr.2.1) (h2 : n0 ≤ p → wr.2.2 = true) : y_same n0 wr cw (cw.set p (a, .inl x')) := by
  refine ⟨by rw [z_fst_set hc]; exact fun _ _ h => h, fun p' a' ci' vs' h => ?_, fun p' e h _ q1 q2 => ?_⟩
  · by_cases hp : p = p'
    · subst hp
      rw [hc] at h
      cases h
    · exact ⟨vs', by rw [List.getElem?_set_ne hp]; exact h, fun _ _ _ => rfl⟩
  · by_cases hp : p = p'
    · subst hp
      by_cases hl : p < n0
      · exact absurd (h1 hl) (q1 hl)
      · have := h2 (by omega)
        rw [q2 (by omega)] at this
        cases this
    · rw [List.getElem?_set_ne hp]; exact h
/-- facts behind a write to a field -/
theorem y_fxr_put {kd i p a ci f : Nat} {vs : List Value} {w : Value} {v : yV} {fx fx' : List yF} (hf : y_fxr tb ρ b cw fx) (hk : ∀ q ∈ fx', q ∈ fx ∧ ¬ (q.2.2.1 = f ∧ ((1 ≤ kd ∧ 1 ≤ q.1) ∨ (kd = 0 ∧ q.1 = 0 ∧ q.2.1 = i)))) (hat : y_at ρ kd i = some p) (h0 : kd = 0 → i < tb.1.length) (hps : ∀ i p, y_ps ρ i = some p → tb.1.length ≤ p) (hc : cw[p]? = some (a, .inr (ci, vs))) (hl : f < vs.length) (hg : y_g tb ρ b v w) : y_fxr tb ρ b (cw.set p (a, .inr (ci, vs.set f w))) ((kd, i, f, v) :: fx') := by
  intro q hq
  rcases List.mem_cons.mp hq with rfl | hq
  · exact ⟨h0, p, a, ci, vs.set f w, w, hat, List.getElem?_set_self (List.getElem?_eq_some_iff.mp hc).1, List.getElem?_set_self hl, hg⟩
  · obtain ⟨hq1, hq2⟩ := hk q hq
    obtain ⟨g0, p1, a1, ci1, vs1, w1, g1, g2, g3, g4⟩ := hf q hq1
    by_cases hp : p = p1
    · subst hp
      rw [hc] at g2
      cases g2
      refine ⟨g0, p, a, ci, vs.set f w, w1, g1, List.getElem?_set_self (List.getElem?_eq_some_iff.mp hc).1, ?_, g4⟩
      by_cases hff : f = q.2.2.1
      · exfalso
        refine hq2 ⟨hff.symm, ?_⟩
        cases hkd : kd with
        | zero =>
          subst hkd
          have e1 : i = p := Option.some.inj hat
          cases hq1k : q.1 with
          | zero =>
            rw [hq1k] at g1
            have e2 : q.2.1 = p := Option.some.inj g1
            exact Or.inr ⟨rfl, rfl, by omega⟩
          | succ j =>
            rw [hq1k] at g1
            have := hps _ _ g1
            have := h0 rfl
            omega
        | succ j =>
          subst hkd
          cases hq1k : q.1 with
          | zero =>
            have e3 := g0 hq1k
            rw [hq1k] at g1
            have e2 : q.2.1 = p := Option.some.inj g1
            have := hps _ _ hat
            omega
          | succ j' => exact Or.inl ⟨by omega, by omega⟩
      · rw [List.getElem?_set_ne hff]; exact g3
    · exact ⟨g0, p1, a1, ci1, vs1, w1, g1, by rw [List.getElem?_set_ne hp]; exact g2, g3, g4⟩
theorem y_axr_put {p a ci f : Nat} {vs : List Value} {w : Value} {ax : List yA} (hf : y_axr tb ρ b cw ax) (hc : cw[p]? = some (a, .inr (ci, vs))) : y_axr tb ρ b (cw.set p (a, .inr (ci, vs.set f w))) ax := by
  intro q hq
  obtain ⟨g0, p1, a1, cA, len, g, x, g1, g2, g3, gx, g4⟩ := hf q hq
  by_cases hp : p = p1
  · subst hp
    rw [hc] at g2
    cases g2
  · exact ⟨g0, p1, a1, cA, len, g, x, g1, by rw [List.getElem?_set_ne hp]; exact g2, g3, gx, g4⟩
/-- facts behind a write to a row -/
theorem y_fxr_row {p a : Nat} {x x' : ClassId × Nat × ((Nat → Int32) ⊕ (Nat → Int64) ⊕ (Nat → UInt32) ⊕ (Nat → UInt64) ⊕ (Nat → Option Nat))} {fx : List yF} (hf : y_fxr tb ρ b cw fx) (hc : cw[p]? = some (a, .inl x)) : y_fxr tb ρ b (cw.set p (a, .inl x')) fx := by
  intro q hq
  obtain ⟨g0, p1, a1, ci1, vs1, w1, g1, g2, g3, g4⟩ := hf q hq
  by_cases hp : p = p1
  · subst hp
    rw [hc] at g2
    cases g2
  · exact ⟨g0, p1, a1, ci1, vs1, w1, g1, by rw [List.getElem?_set_ne hp]; exact g2, g3, g4⟩
theorem y_ncd_ok {sg : List Int32} {a b : yV} {x y : Int32} (h : y_ncd a b = true) (hx : y_gi sg a x) (hy : y_gi sg b y) : z_b x ≠ z_b y := by
  unfold y_ncd at h
  split at h
  · rename_i u v
    have hx : x = nI u := hx
    have hy : y = nI v := hy
    intro e
    rw [hx, hy, z_b_nI, z_b_nI] at e
    rw [(z_nb _ _).mpr e] at h
    cases h
  · cases h
theorem y_axr_row {kd i p a len : Nat} {cA : ClassId} {g g' : Nat → Int32} {j v : yV} {x : Int32} {ax ax' : List yA} (hf : y_axr tb ρ b cw ax) (hk : ∀ q ∈ ax', q ∈ ax ∧ ¬ ((1 ≤ kd ∧ 1 ≤ q.1) ∨ (kd = 0 ∧ q.1 = 0 ∧ q.2.1 = i ∧ y_ncd q.2.2.1 j = false))) (hat : y_at ρ kd i = some p) (h0 : kd = 0 → i < tb.1.length) (hps : ∀ i p, y_ps ρ i = some p → tb.1.length ≤ p) (hc : cw[p]? = some (a, .inl (cA, len, .inl g))) (hj : y_gi (y_sg ρ) j x) (hjx : x.toNatClampNeg + 2147483648 = z_b x) (hkeep : ∀ m, m ≠ x.toNatClampNeg → g' m = g m) : y_axr tb ρ b (cw.set p (a, .inl (cA, len, .inl g'))) ax' := by
  intro q hq
  obtain ⟨hq1, hq2⟩ := hk q hq
  obtain ⟨g0, p1, a1, cA1, len1, f1, x1, g1, g2, g3, gx, g4⟩ := hf q hq1
  by_cases hp : p = p1
  · subst hp
    rw [hc] at g2
    cases g2
    refine ⟨g0, p, a, cA, len, g', x1, g1, List.getElem?_set_self (List.getElem?_eq_some_iff.mp hc).1, g3, gx, ?_⟩
    have hne : y_ncd q.2.2.1 j = true := by
      cases hn : y_ncd q.2.2.1 j with
      | true => rfl
      | false =>
        exfalso
        apply hq2
        cases hkd : kd with
        | zero =>
          subst hkd
          have e1 : i = p := Option.some.inj hat
          cases hq1k : q.1 with
          | zero =>
            rw [hq1k] at g1
            have e2 : q.2.1 = p := Option.some.inj g1
            exact Or.inr ⟨rfl, rfl, by omega, hn⟩
          | succ j' =>
            rw [hq1k] at g1
            have := hps _ _ g1
            have := h0 rfl
            omega
        | succ j' =>
          subst hkd
          cases hq1k : q.1 with
          | zero =>
            have e3 := g0 hq1k
            rw [hq1k] at g1
            have e2 : q.2.1 = p := Option.some.inj g1
            have := hps _ _ hat
            omega
          | succ j'' => exact Or.inl ⟨by omega, by omega⟩
    have e3 := y_ncd_ok hne g3 hj
    rw [hkeep _ (by omega)]
    exact g4
  · exact ⟨g0, p1, a1, cA1, len1, f1, x1, g1, by rw [List.getElem?_set_ne hp]; exact g2, g3, gx, g4⟩
end YC
