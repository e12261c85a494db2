/-! THE SECOND MACHINE: ints within bounds, path by path, loops cut at their heads. Bounds first: unions of intervals of biased numbers -/
abbrev yD : Type := List (Nat × Nat)
noncomputable def y_fl {α β : Type} (f : α → β → β) (b : β) (l : List α) : β := List.rec (motive := fun _ => β) b (fun a _ ih => f a ih) l
theorem y_fl_nil {α β : Type} (f : α → β → β) (b : β) : y_fl f b [] = b := rfl
theorem y_fl_cons {α β : Type} (f : α → β → β) (b : β) (a : α) (l : List α) : y_fl f b (a :: l) = f a (y_fl f b l) := rfl
def y_in (D : yD) (n : Nat) : Prop := ∃ p ∈ D, p.1 ≤ n ∧ n ≤ p.2
theorem y_in_cons {p : Nat × Nat} {D : yD} {n : Nat} : y_in (p :: D) n ↔ (p.1 ≤ n ∧ n ≤ p.2) ∨ y_in D n := by
  constructor
  · rintro ⟨q, hq, h⟩
    rcases List.mem_cons.mp hq with rfl | hq
    · exact Or.inl h
    · exact Or.inr ⟨q, hq, h⟩
  · rintro (h | ⟨q, hq, h⟩)
    · exact ⟨p, List.mem_cons_self, h⟩
    · exact ⟨q, List.mem_cons_of_mem _ hq, h⟩
theorem y_in_nil {n : Nat} : ¬ y_in [] n := by
  rintro ⟨q, hq, _⟩
  cases hq
def y_top : yD := [(0, 4294967295)]
theorem y_in_top (x : Int32) : y_in y_top (z_b x) := ⟨_, List.mem_cons_self, Nat.zero_le _, by unfold z_b; omega⟩
/-- least and greatest -/
noncomputable def y_min (D : yD) : Nat := y_fl (fun p r => cond (Nat.ble p.1 r) p.1 r) 4294967295 D
noncomputable def y_max (D : yD) : Nat := y_fl (fun p r => cond (Nat.ble r p.2) p.2 r) 0 D
theorem y_min_le {D : yD} {n : Nat} (h : y_in D n) : y_min D ≤ n := by
  induction D with
  | nil => exact absurd h y_in_nil
  | cons p D ih =>
    show cond (Nat.ble p.1 (y_min D)) p.1 (y_min D) ≤ n
    rcases y_in_cons.mp h with h | h
    · cases hc : Nat.ble p.1 (y_min D) with
      | true => exact h.1
      | false =>
        have : ¬ p.1 ≤ y_min D := fun q => by rw [(Nat.ble_eq).mpr q] at hc; cases hc
        show y_min D ≤ n
        omega
    · have := ih h
      cases hc : Nat.ble p.1 (y_min D) with
      | true =>
        have := z_le_of hc
        show p.1 ≤ n
        omega
      | false => exact this
theorem y_le_max {D : yD} {n : Nat} (h : y_in D n) : n ≤ y_max D := by
  induction D with
  | nil => exact absurd h y_in_nil
  | cons p D ih =>
    show n ≤ cond (Nat.ble (y_max D) p.2) p.2 (y_max D)
    rcases y_in_cons.mp h with h | h
    · cases hc : Nat.ble (y_max D) p.2 with
      | true => exact h.2
      | false =>
        have : ¬ y_max D ≤ p.2 := fun q => by rw [(Nat.ble_eq).mpr q] at hc; cases hc
        show n ≤ y_max D
        omega
    · have := ih h
      cases hc : Nat.ble (y_max D) p.2 with
      | true =>
        have := z_le_of hc
        show n ≤ p.2
        omega
      | false => exact this
/-- within another one -/
noncomputable def y_has (E : yD) (a b : Nat) : Bool := y_fl (fun q r => or (and (Nat.ble q.1 a) (Nat.ble b q.2)) r) false E
noncomputable def y_sub (D E : yD) : Bool := y_fl (fun p r => and (y_has E p.1 p.2) r) true D
theorem y_has_ok {E : yD} {a b n : Nat} (h : y_has E a b = true) (h1 : a ≤ n) (h2 : n ≤ b) : y_in E n := by
  induction E with
  | nil => cases h
  | cons q E ih =>
    have h : or (and (Nat.ble q.1 a) (Nat.ble b q.2)) (y_has E a b) = true := h
    rw [Bool.or_eq_true] at h
    rcases h with h | h
    · obtain ⟨p1, p2⟩ := z_and h
      have := z_le_of p1
      have := z_le_of p2
      exact y_in_cons.mpr (Or.inl ⟨by omega, by omega⟩)
    · exact y_in_cons.mpr (Or.inr (ih h))
theorem y_sub_ok {D E : yD} {n : Nat} (h : y_sub D E = true) (hn : y_in D n) : y_in E n := by
  induction D with
  | nil => exact absurd hn y_in_nil
  | cons p D ih =>
    have h : and (y_has E p.1 p.2) (y_sub D E) = true := h
    obtain ⟨h1, h2⟩ := z_and h
    rcases y_in_cons.mp hn with hn | hn
    · exact y_has_ok h1 hn.1 hn.2
    · exact ih h2 hn
/-- what of it lies between a and b, made plain, handed on -/
noncomputable def y_cut {β : Type} (D : yD) (a b : Nat) : (yD → β) → β :=
  y_fl (fun p ih k => z_frc (cond (Nat.ble p.1 a) a p.1) fun l => z_frc (cond (Nat.ble p.2 b) p.2 b) fun h => cond (Nat.ble l h) (ih (fun r => k ((l, h) :: r))) (ih k)) (fun k => k []) D
theorem y_cut_ok {β : Type} {D : yD} {a b : Nat} : ∃ E : yD, (∀ k : yD → β, y_cut D a b k = k E) ∧ ∀ n, y_in D n → a ≤ n → n ≤ b → y_in E n := by
  induction D with
  | nil => exact ⟨[], fun _ => rfl, fun n h => absurd h y_in_nil⟩
  | cons p D ih =>
    obtain ⟨E, h1, h2⟩ := ih
    have e : ∀ k : yD → β, y_cut (p :: D) a b k = cond (Nat.ble (cond (Nat.ble p.1 a) a p.1) (cond (Nat.ble p.2 b) p.2 b)) (y_cut D a b (fun r => k ((cond (Nat.ble p.1 a) a p.1, cond (Nat.ble p.2 b) p.2 b) :: r))) (y_cut D a b k) := by
      intro k
      have e0 : y_cut (p :: D) a b k = z_frc (cond (Nat.ble p.1 a) a p.1) (fun l => z_frc (cond (Nat.ble p.2 b) p.2 b) (fun h => cond (Nat.ble l h) (y_cut D a b (fun r => k ((l, h) :: r))) (y_cut D a b k))) := rfl
      rw [e0, z_frc_eq, z_frc_eq]
    have c1 : cond (Nat.ble p.1 a) a p.1 = max p.1 a := by
      cases hc : Nat.ble p.1 a with
      | true => have := z_le_of hc; show a = _; omega
      | false =>
        have : ¬ p.1 ≤ a := fun q => by rw [(Nat.ble_eq).mpr q] at hc; cases hc
        show p.1 = _; omega
    have c2 : cond (Nat.ble p.2 b) p.2 b = min p.2 b := by
      cases hc : Nat.ble p.2 b with
      | true => have := z_le_of hc; show p.2 = _; omega
      | false =>
        have : ¬ p.2 ≤ b := fun q => by rw [(Nat.ble_eq).mpr q] at hc; cases hc
        show b = _; omega
    rw [c1, c2] at e
    cases hc : Nat.ble (max p.1 a) (min p.2 b) with
    | true =>
      refine ⟨(max p.1 a, min p.2 b) :: E, fun k => by rw [e, hc, cond_true, h1], fun n hn q1 q2 => ?_⟩
      rcases y_in_cons.mp hn with hn | hn
      · exact y_in_cons.mpr (Or.inl ⟨by show max _ _ ≤ n; omega, by show n ≤ min _ _; omega⟩)
      · exact y_in_cons.mpr (Or.inr (h2 n hn q1 q2))
    | false =>
      refine ⟨E, fun k => by rw [e, hc, cond_false, h1], fun n hn q1 q2 => ?_⟩
      have : ¬ max p.1 a ≤ min p.2 b := fun q => by rw [(Nat.ble_eq).mpr q] at hc; cases hc
      rcases y_in_cons.mp hn with hn | hn
      · omega
      · exact h2 n hn q1 q2
/-- without a number -/
noncomputable def y_wo {β : Type} (D : yD) (a : Nat) : (yD → β) → β :=
  y_fl (fun p ih k => cond (and (Nat.ble p.1 a) (Nat.ble a p.2)) (cond (Nat.blt p.1 a) (z_frc (a - 1) fun h => cond (Nat.blt a p.2) (z_frc (a + 1) fun l => ih (fun r => k ((p.1, h) :: (l, p.2) :: r))) (ih (fun r => k ((p.1, h) :: r)))) (cond (Nat.blt a p.2) (z_frc (a + 1) fun l => ih (fun r => k ((l, p.2) :: r))) (ih k))) (ih (fun r => k (p :: r)))) (fun k => k []) D
theorem y_wo_ok {β : Type} {D : yD} {a : Nat} : ∃ E : yD, (∀ k : yD → β, y_wo D a k = k E) ∧ ∀ n, y_in D n → n ≠ a → y_in E n := by
  induction D with
  | nil => exact ⟨[], fun _ => rfl, fun n h => absurd h y_in_nil⟩
  | cons p D ih =>
    obtain ⟨E, h1, h2⟩ := ih
    have nb : ∀ {x y : Nat}, Nat.ble x y = false → ¬ x ≤ y := fun hc q => by rw [(Nat.ble_eq).mpr q] at hc; cases hc
    have e : ∀ k : yD → β, y_wo (p :: D) a k = cond (and (Nat.ble p.1 a) (Nat.ble a p.2)) (cond (Nat.blt p.1 a) (z_frc (a - 1) fun h => cond (Nat.blt a p.2) (z_frc (a + 1) fun l => y_wo D a (fun r => k ((p.1, h) :: (l, p.2) :: r))) (y_wo D a (fun r => k ((p.1, h) :: r)))) (cond (Nat.blt a p.2) (z_frc (a + 1) fun l => y_wo D a (fun r => k ((l, p.2) :: r))) (y_wo D a k))) (y_wo D a (fun r => k (p :: r))) := fun k => rfl
    cases hc : and (Nat.ble p.1 a) (Nat.ble a p.2) with
    | false =>
      refine ⟨p :: E, fun k => by rw [e, hc, cond_false, h1], fun n hn q => ?_⟩
      rcases y_in_cons.mp hn with hn | hn
      · exact y_in_cons.mpr (Or.inl hn)
      · exact y_in_cons.mpr (Or.inr (h2 n hn q))
    | true =>
      cases hb : Nat.blt p.1 a with
      | true =>
        have hb' := z_lt_of hb
        cases hd : Nat.blt a p.2 with
        | true =>
          refine ⟨(p.1, a - 1) :: (a + 1, p.2) :: E, fun k => by rw [e, hc, cond_true, hb, cond_true, z_frc_eq, hd, cond_true, z_frc_eq, h1], fun n hn q => ?_⟩
          rcases y_in_cons.mp hn with hn | hn
          · by_cases hl : n < a
            · exact y_in_cons.mpr (Or.inl ⟨hn.1, by show n ≤ a - 1; omega⟩)
            · exact y_in_cons.mpr (Or.inr (y_in_cons.mpr (Or.inl ⟨by show a + 1 ≤ n; omega, hn.2⟩)))
          · exact y_in_cons.mpr (Or.inr (y_in_cons.mpr (Or.inr (h2 n hn q))))
        | false =>
          have hd' : ¬ a + 1 ≤ p.2 := nb hd
          refine ⟨(p.1, a - 1) :: E, fun k => by rw [e, hc, cond_true, hb, cond_true, z_frc_eq, hd, cond_false, h1], fun n hn q => ?_⟩
          rcases y_in_cons.mp hn with hn | hn
          · exact y_in_cons.mpr (Or.inl ⟨hn.1, by show n ≤ a - 1; omega⟩)
          · exact y_in_cons.mpr (Or.inr (h2 n hn q))
      | false =>
        have hb' : ¬ p.1 + 1 ≤ a := nb hb
        cases hd : Nat.blt a p.2 with
        | true =>
          refine ⟨(a + 1, p.2) :: E, fun k => by rw [e, hc, cond_true, hb, cond_false, hd, cond_true, z_frc_eq, h1], fun n hn q => ?_⟩
          rcases y_in_cons.mp hn with hn | hn
          · exact y_in_cons.mpr (Or.inl ⟨by show a + 1 ≤ n; omega, hn.2⟩)
          · exact y_in_cons.mpr (Or.inr (h2 n hn q))
        | false =>
          have hd' : ¬ a + 1 ≤ p.2 := nb hd
          refine ⟨E, fun k => by rw [e, hc, cond_true, hb, cond_false, hd, cond_false, h1], fun n hn q => ?_⟩
          rcases y_in_cons.mp hn with hn | hn
          · omega
          · exact h2 n hn q
