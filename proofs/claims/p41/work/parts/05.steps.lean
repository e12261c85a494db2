-- what the small steps say when they answer true
theorem z_p1_ok {st : List zAV} {f : zAV → List zAV → Bool} (h : z_p1 st f = true) : ∃ a t, st = a :: t ∧ f a t = true := by
  cases st with
  | nil => cases h
  | cons a t => exact ⟨a, t, rfl, h⟩
theorem z_b2_ok {st : List zAV} {f : zAV → zAV → List zAV → Bool} (h : z_b2 st f = true) : ∃ a b t, st = b :: a :: t ∧ f a b t = true := by
  match st, h with
  | b :: a :: t, h => exact ⟨a, b, t, rfl, h⟩
  | [], h => cases h
  | [_], h => cases h
theorem z_pr_ok {st : List zAV} {f : Nat → List zAV → Bool} (h : z_pr st f = true) : ∃ a t, st = z_rf a :: t ∧ f a t = true := by
  match st, h with
  | .inr (.inr (.inl (some a))) :: t, h => exact ⟨a, t, rfl, h⟩
  | [], h => cases h
  | .inl _ :: _, h => cases h
  | .inr (.inl _) :: _, h => cases h
  | .inr (.inr (.inl none)) :: _, h => cases h
  | .inr (.inr (.inr _)) :: _, h => cases h
theorem z_one_ok {st : List zAV} {f : zAV → Bool} (h : z_one st f = true) : ∃ a, st = [a] ∧ f a = true := by
  match st, h with
  | [a], h => exact ⟨a, rfl, h⟩
  | [], h => cases h
  | _ :: _ :: _, h => cases h
theorem z_op_ok {α : Type} {o : Option α} {f : α → Bool} (h : z_op o f = true) : ∃ a, o = some a ∧ f a = true := by
  cases o with
  | none => cases h
  | some a => exact ⟨a, rfl, h⟩
theorem z_opl_ok {α : Type} {l : List α} {i : Nat} {f : α → Bool} (h : z_opl l i f = true) : ∃ a, l[i]? = some a ∧ f a = true := by
  obtain ⟨a, h1, h2⟩ := z_op_ok h
  exact ⟨a, (z_at_eq l i).symm.trans h1, h2⟩
theorem z_ob_ok {w : List zAE} {a : Nat} {f : Nat → List zAV → Bool} (h : z_ob w a f = true) : ∃ ci fs, w[a]? = some (.inl (ci, fs)) ∧ f ci fs = true := by
  unfold z_ob at h
  rw [z_at_eq] at h
  match hw : w[a]?, h with
  | some (.inl (ci, fs)), h => exact ⟨ci, fs, rfl, h⟩
  | some (.inr _), h => cases h
  | none, h => cases h
theorem z_ar_ok {w : List zAE} {a : Nat} {f : Nat → Nat → List zAV → Bool} (h : z_ar w a f = true) : ∃ kd n pr, w[a]? = some (.inr (kd, n, pr)) ∧ f kd n pr = true := by
  unfold z_ar at h
  rw [z_at_eq] at h
  match hw : w[a]?, h with
  | some (.inr (kd, n, pr)), h => exact ⟨kd, n, pr, rfl, h⟩
  | some (.inl _), h => cases h
  | none, h => cases h
theorem z_nul_ok {v : zAV} {A B : Bool} (h : z_nul v A B = true) : (v = z_null ∧ A = true) ∨ ∃ a, v = z_rf a ∧ B = true := by
  match v, h with
  | .inr (.inr (.inl none)), h => exact Or.inl ⟨rfl, h⟩
  | .inr (.inr (.inl (some a))), h => exact Or.inr ⟨a, rfl, h⟩
  | .inl _, h => cases h
  | .inr (.inl _), h => cases h
  | .inr (.inr (.inr _)), h => cases h
theorem z_rsc_ok {v : zAV} {f : Nat → Bool} {g : Bool} (h : z_rsc v f g = true) : (∃ a, v = z_rf a ∧ f a = true) ∨ (v = z_scr ∧ g = true) := by
  match v, h with
  | .inr (.inr (.inl (some a))), h => exact Or.inl ⟨a, rfl, h⟩
  | .inr (.inr (.inl none)), h => cases h
  | .inr (.inr (.inr 2)), h => exact Or.inr ⟨rfl, h⟩
  | .inr (.inr (.inr 0)), h => cases h
  | .inr (.inr (.inr 1)), h => cases h
  | .inr (.inr (.inr (_ + 3))), h => cases h
  | .inl _, h => cases h
  | .inr (.inl _), h => cases h
theorem z_lx_ok {lx : zLX} {f : Nat → Bool} (h : z_lx lx f = true) : ∃ L, lx.1 = L + 1 ∧ f L = true := by
  unfold z_lx at h
  match hl : lx.1, h with
  | 0, h => cases h
  | L + 1, h => exact ⟨L, rfl, h⟩
theorem z_ks_ok {v : zAV} {f g : Nat → Bool} (h : z_ks v f g = true) : (∃ u, v = .inl u ∧ f u = true) ∨ ∃ j, v = z_sy j ∧ g j = true := by
  match v, h with
  | .inl u, h => exact Or.inl ⟨u, rfl, h⟩
  | .inr (.inl j), h => exact Or.inr ⟨j, rfl, h⟩
  | .inr (.inr _), h => cases h
theorem z_cond {c A : Bool} (h : cond c A false = true) : c = true ∧ A = true := by
  cases c
  · cases h
  · exact ⟨rfl, h⟩
theorem z_and {a b : Bool} (h : and a b = true) : a = true ∧ b = true := by
  cases a
  · cases h
  · exact ⟨rfl, h⟩
theorem z_le_of {a b : Nat} (h : Nat.ble a b = true) : a ≤ b := Nat.le_of_ble_eq_true h
theorem z_lt_of {a b : Nat} (h : Nat.blt a b = true) : a < b := Nat.le_of_ble_eq_true h
theorem z_to_ok {q : Nat} {o : Int} {f : Nat → Bool} (h : z_to q o f = true) : ∃ tg : Nat, (q : Int) + o = (tg : Int) ∧ f tg = true := by
  unfold z_to at h
  rw [z_frc_eq] at h
  obtain ⟨h1, h2⟩ := z_cond h
  exact ⟨_, of_decide_eq_true h1, h2⟩
theorem z_ld_ok {f : zAV → Bool} {lo : List (Nat × zAV)} {j : Nat} {k : zAV → Bool} (h : z_ld f lo j k = true) : ∃ a, z_lk lo j = some a ∧ f a = true ∧ k a = true := by
  unfold z_ld at h
  cases hl : z_lk lo j with
  | none => rw [hl] at h; cases h
  | some a =>
    rw [hl] at h
    obtain ⟨h1, h2⟩ := z_cond h
    exact ⟨a, rfl, h1, h2⟩
theorem z_sto_ok {f : zAV → Bool} {mr : zMR} {lo : List (Nat × zAV)} {j : Nat} {st : List zAV} {k : List (Nat × zAV) → List zAV → Bool} (h : z_sto f mr lo j st k = true) : ∃ a t, st = a :: t ∧ f a = true ∧ j < z_mL mr ∧ k ((j, a) :: lo.filter (fun q => !(Nat.beq q.1 j))) t = true := by
  cases st with
  | nil => cases h
  | cons a t =>
    have h : cond (and (f a) (Nat.blt j (z_mL mr))) (z_del lo j fun lo' => k ((j, a) :: lo') t) false = true := h
    obtain ⟨h1, h2⟩ := z_cond h
    rw [z_del_eq] at h2
    exact ⟨a, t, rfl, (z_and h1).1, z_lt_of (z_and h1).2, h2⟩
theorem z_mk_ok {mr : zMR} {ce sl N : Nat} {w : List zAE} {e : zAE} {k : Nat → List zAE → Nat → Nat → Bool} (h : z_mk mr ce sl N w e k = true) : ce + 1 ≤ (z_rm mr).cells ∧ sl + N ≤ (z_rm mr).slots ∧ k w.length (w ++ [e]) (ce + 1) (sl + N) = true := by
  obtain ⟨h1, h2⟩ := z_cond h
  rw [z_frc_eq, z_app_eq, z_frc_eq, z_frc_eq, z_lnE_eq] at h2
  exact ⟨z_le_of (z_and h1).1, z_le_of (z_and h1).2, h2⟩
