-- frames, and what is to be shown
def y_SR (g : yV → Value → Prop) : List yV → List Value → Prop
  | [], [] => True
  | a :: as, v :: vs => g a v ∧ y_SR g as vs
  | _, _ => False
def y_LR (g : yV → Value → Prop) : yLo → List (Nat × Value) → Prop
  | [], [] => True
  | q :: qs, r :: rs => (q.1 = r.1 ∧ g q.2 r.2) ∧ y_LR g qs rs
  | _, _ => False
theorem y_SR_mono {g g' : yV → Value → Prop} (h : ∀ a v, g a v → g' a v) : ∀ {as : List yV} {vs : List Value}, y_SR g as vs → y_SR g' as vs
  | [], [], _ => trivial
  | _ :: _, _ :: _, hs => ⟨h _ _ hs.1, y_SR_mono h hs.2⟩
  | [], _ :: _, hs => hs.elim
  | _ :: _, [], hs => hs.elim
theorem y_LR_mono {g g' : yV → Value → Prop} (h : ∀ a v, g a v → g' a v) : ∀ {as : yLo} {vs : List (Nat × Value)}, y_LR g as vs → y_LR g' as vs
  | [], [], _ => trivial
  | _ :: _, _ :: _, hs => ⟨⟨hs.1.1, h _ _ hs.1.2⟩, y_LR_mono h hs.2⟩
  | [], _ :: _, hs => hs.elim
  | _ :: _, [], hs => hs.elim
theorem y_SR_cons {g : yV → Value → Prop} {a : yV} {t : List yV} {vs : List Value} (h : y_SR g (a :: t) vs) : ∃ v ct, vs = v :: ct ∧ g a v ∧ y_SR g t ct := by
  cases vs with
  | nil => exact h.elim
  | cons v ct => exact ⟨v, ct, rfl, h.1, h.2⟩
theorem y_SR_nil {g : yV → Value → Prop} {vs : List Value} (h : y_SR g [] vs) : vs = [] := by
  cases vs with
  | nil => rfl
  | cons v ct => exact h.elim
theorem y_pop1_ok {st : List yV} {f : yV → List yV → Bool} (h : y_pop1 st f = true) : ∃ a t, st = a :: t ∧ f a t = true := by
  cases st with
  | nil => cases h
  | cons a t => exact ⟨a, t, rfl, h⟩
theorem y_lkl_ok {g : yV → Value → Prop} {i : Nat} {k : yV → Bool} : ∀ {lo : yLo} {lv : List (Nat × Value)}, y_LR g lo lv → y_lkl lo i k = true → ∃ (j : Nat) (a : yV) (v : Value), lv[j]? = some (i, v) ∧ g a v ∧ k a = true
  | [], [], _, h => by cases h
  | q :: qs, r :: rs, hs, h => by
    have h : cond (Nat.beq q.1 i) (k q.2) (y_lkl qs i k) = true := h
    rcases y_bool h with ⟨hc, h1⟩ | ⟨_, h1⟩
    · have := Nat.eq_of_beq_eq_true hc
      refine ⟨0, q.2, r.2, ?_, hs.1.2, h1⟩
      show some r = _
      rw [← this, hs.1.1]
    · obtain ⟨j, a, v, g1, g2, g3⟩ := y_lkl_ok hs.2 h1
      exact ⟨j + 1, a, v, by simpa using g1, g2, g3⟩
  | [], _ :: _, hs, _ => hs.elim
  | _ :: _, [], hs, _ => hs.elim
theorem y_dell_eq (lo : yLo) (i : Nat) : ∀ k : yLo → Bool, y_dell lo i k = k (lo.filter (fun q => !(or (Nat.beq q.1 i) (and (Nat.beq (q.1 + 1) i) (y_isL q.2))))) := by
  induction lo with
  | nil => intro k; rfl
  | cons q qs ih =>
    intro k
    show cond (or (Nat.beq q.1 i) (and (Nat.beq (q.1 + 1) i) (y_isL q.2))) (y_dell qs i k) (y_dell qs i (fun t => k (q :: t))) = _
    rw [ih k, ih (fun t => k (q :: t))]
    rw [List.filter_cons]
    cases h : or (Nat.beq q.1 i) (and (Nat.beq (q.1 + 1) i) (y_isL q.2)) with
    | true => rfl
    | false => rfl
theorem y_cat2 {tb : yTb} {ρ : yRo} {b : Nat → Nat} {a : yV} {v : Value} (hg : y_g tb ρ b a v) : (v.category == 2) = y_isL a := by
  cases h : y_isL a with
  | true =>
    obtain ⟨x, rfl⟩ := y_isL_ok h hg
    rfl
  | false =>
    rw [y_cat1 h hg]
    rfl
theorem y_LR_del {tb : yTb} {ρ : yRo} {b : Nat → Nat} (i : Nat) : ∀ {lo : yLo} {lv : List (Nat × Value)}, y_LR (y_g tb ρ b) lo lv → y_LR (y_g tb ρ b) (lo.filter (fun q => !(or (Nat.beq q.1 i) (and (Nat.beq (q.1 + 1) i) (y_isL q.2))))) (lv.filter (fun q => !(q.1 == i) && !(q.1 + 1 == i && q.2.category == 2)))
  | [], [], _ => trivial
  | q :: qs, r :: rs, hs => by
    have h1 := y_LR_del i hs.2
    have hc : (!(r.1 == i) && !(r.1 + 1 == i && r.2.category == 2)) = !(or (Nat.beq q.1 i) (and (Nat.beq (q.1 + 1) i) (y_isL q.2))) := by
      rw [y_cat2 hs.1.2, hs.1.1, z_nbe, z_nbe, Bool.not_or]
    rw [List.filter_cons, List.filter_cons, hc]
    cases hb : or (Nat.beq q.1 i) (and (Nat.beq (q.1 + 1) i) (y_isL q.2))
    · exact ⟨hs.1, h1⟩
    · exact h1
  | [], _ :: _, hs => hs.elim
  | _ :: _, [], hs => hs.elim
