-- methods' words
theorem y_okM_i {wt : zTB} {cls : List vw_C} {mr : yMR} {q : vw_C} (h0 : Jvm.Cond.code (y_y mr) (y_cc mr) (y_mL mr) (y_rt mr) ∈ z_G wt) (h1 : Jvm.Cond.initialized (y_y mr).cls ∈ z_G wt) (h2 : plainName (y_y mr).cls = true) (h3 : (y_y mr).cls ≠ "java/lang/invoke/MethodHandle" ∧ (y_y mr).cls ≠ "java/lang/invoke/VarHandle") (h4 : Jvm.Cond.instanceMethod (y_y mr) ∈ z_G wt) (h5 : Jvm.Cond.selects (y_y mr).cls (y_y mr) (y_y mr) ∈ z_G wt) (h6 : cls[y_ci mr]? = some q) (h7 : q.1 = (y_y mr).cls) (h8 : y_ci mr < 99) : y_okM wt cls mr := ⟨h0, h1, h2, h3, fun _ => ⟨⟨h4, h5⟩, fun z => absurd z (by omega), fun _ => ⟨q, h6, h7⟩⟩, fun h => absurd h (by omega)⟩
theorem y_okM_t {wt : zTB} {cls : List vw_C} {mr : yMR} (h0 : Jvm.Cond.code (y_y mr) (y_cc mr) (y_mL mr) (y_rt mr) ∈ z_G wt) (h1 : Jvm.Cond.initialized (y_y mr).cls ∈ z_G wt) (h2 : plainName (y_y mr).cls = true) (h3 : (y_y mr).cls ≠ "java/lang/invoke/MethodHandle" ∧ (y_y mr).cls ≠ "java/lang/invoke/VarHandle") (h4 : Jvm.Cond.instanceMethod (y_y mr) ∈ z_G wt) (h5 : Jvm.Cond.selects (y_y mr).cls (y_y mr) (y_y mr) ∈ z_G wt) (h6 : y_ci mr = 99) (h7 : (y_y mr).cls = "java/lang/String") : y_okM wt cls mr := ⟨h0, h1, h2, h3, fun _ => ⟨⟨h4, h5⟩, fun _ => h7, fun z => absurd z (by omega)⟩, fun h => absurd h (by omega)⟩
theorem y_okM_s {wt : zTB} {cls : List vw_C} {mr : yMR} (h0 : Jvm.Cond.code (y_y mr) (y_cc mr) (y_mL mr) (y_rt mr) ∈ z_G wt) (h1 : Jvm.Cond.initialized (y_y mr).cls ∈ z_G wt) (h2 : plainName (y_y mr).cls = true) (h3 : (y_y mr).cls ≠ "java/lang/invoke/MethodHandle" ∧ (y_y mr).cls ≠ "java/lang/invoke/VarHandle") (h4 : Jvm.Cond.static (y_y mr) ∈ z_G wt) (h8 : 100 ≤ y_ci mr) : y_okM wt cls mr := ⟨h0, h1, h2, h3, fun h => absurd h (by omega), fun _ => h4⟩
theorem z_seg {α : Type} {f : α → Bool} {l : List α} {a k : Nat} (h1 : ((l.drop a).take k).all f = true) (h2 : (l.drop (a + k)).all f = true) : (l.drop a).all f = true := by
  rw [← List.take_append_drop k (l.drop a), List.all_append, h1, List.drop_drop, h2]
  rfl
theorem z_seg_end {α : Type} {f : α → Bool} {l : List α} {k : Nat} (h : l.length ≤ k) : (l.drop k).all f = true := by
  rw [List.drop_eq_nil_of_le h]
  rfl
theorem z_seg0 {α : Type} {f : α → Bool} {l : List α} (h : (l.drop 0).all f = true) : l.all f = true := by
  rw [List.drop_zero] at h
  exact h
/-- of a contract only the shapes of the table matter -/
theorem y_Con_tb {wt : zTB} {nw : List Jvm.Cond} {cls : List vw_C} {l : Launch} {D : va_G} {K : va_W → Prop} {tb tb' : yTb} {c : yCN} (h1 : tb.1 = tb'.1) (h2 : tb.2.1 = tb'.2.1) (h3 : tb.2.2.1 = tb'.2.2.1) (h : y_Con wt nw cls l D K tb c) : y_Con wt nw cls l D K tb' c := by
  obtain ⟨S, T, R, rest⟩ := tb
  obtain ⟨S', T', R', rest'⟩ := tb'
  dsimp only at h1 h2 h3
  subst h1 h2 h3
  have e : ∀ (ad : List Nat) (tg : List yC) (t : yT) (v : Value), y_tv (S, T, R, rest) ad tg t v = y_tv (S, T, R, rest') ad tg t v := by
    intro ad tg t v
    match t with
    | .inl _ => rfl
    | .inr (.inl _) => rfl
    | .inr (.inr 0) => rfl
    | .inr (.inr 1) => rfl
    | .inr (.inr 2) => rfl
    | .inr (.inr 3) => rfl
    | .inr (.inr (_ + 4)) => rfl
  have e2 : ∀ (ad : List Nat) (tg : List yC), y_tv (S, T, R, rest) ad tg = y_tv (S, T, R, rest') ad tg := fun ad tg => funext fun t => funext fun v => e ad tg t v
  have e3 : ∀ (tys : List (ClassId × FieldType)) (tg : List yC) (cw : va_W), y_WT (S, T, R, rest) cls tys tg cw = y_WT (S, T, R, rest') cls tys tg cw := by
    intro tys tg cw
    have e4 : ∀ (ad : List Nat) (tg : List yC) (c : yC) (x : va_E), y_ET (S, T, R, rest) cls ad tg tys c x = y_ET (S, T, R, rest') cls ad tg tys c x := by
      intro ad tg c x
      match c, x with
      | .inl c, .inr o =>
        show (c.1 = o.1 ∧ y_TL (y_tv (S, T, R, rest) ad tg) c.2 o.2) = (c.1 = o.1 ∧ y_TL (y_tv (S, T, R, rest') ad tg) c.2 o.2)
        rw [e2]
      | .inr c, .inl o =>
        show (c.2.1 = o.2.1 ∧ (∃ t0 : Nat, tys[t0]? = some (o.1, z_kty cls c.1)) ∧ y_DT (y_tv (S, T, R, rest) ad tg) ad c.1 c.2.1 c.2.2 o.2.2) = (c.2.1 = o.2.1 ∧ (∃ t0 : Nat, tys[t0]? = some (o.1, z_kty cls c.1)) ∧ y_DT (y_tv (S, T, R, rest') ad tg) ad c.1 c.2.1 c.2.2 o.2.2)
        rw [e2]
      | .inl _, .inl _ => rfl
      | .inr _, .inr _ => rfl
    unfold y_WT
    simp only [e4]
  have e5 : ∀ (gs : List Int32) (cw : va_W) (tg : List yC) (cw' : va_W) (tys' : List (ClassId × FieldType)) (rv : Option Value), y_XC cls K (S, T, R, rest) c gs cw tg cw' tys' rv = y_XC cls K (S, T, R, rest') c gs cw tg cw' tys' rv := by
    intro gs cw tg cw' tys' rv
    unfold y_XC
    simp only [e2, e3]
  have e6 : ∀ (gs : List Int32) (cw : va_W) (tg : List yC), y_XC cls K (S, T, R, rest) c gs cw tg = y_XC cls K (S, T, R, rest') c gs cw tg := fun gs cw tg => funext fun a => funext fun b => funext fun d => e5 gs cw tg a b d
  unfold y_Con at h ⊢
  simp only [e2, e3, e6] at h
  exact h
noncomputable def y_shl (ty : Nat → FieldType) (ts : List yT) : Nat → Bool := y_fl (fun t ih f => and (y_okT (ty f) t) (ih (f + 1))) (fun _ => true) ts
theorem y_shl_ok {ty : Nat → FieldType} : ∀ {ts : List yT} {i : Nat}, y_shl ty ts i = true → ∀ (f : Nat) (t : yT), ts[f]? = some t → y_okT (ty (i + f)) t = true
  | [], _, _, f, t, h => by simp at h
  | t0 :: ts, i, h, f, t, ht => by
    obtain ⟨h1, h2⟩ := z_and (show and (y_okT (ty i) t0) (y_shl ty ts (i + 1)) = true from h)
    cases f with
    | zero => cases ht; exact h1
    | succ f =>
      have := y_shl_ok h2 f t (by simpa using ht)
      rw [show i + (f + 1) = i + 1 + f from by omega]
      exact this
noncomputable def y_shb (zty : List (Nat → FieldType)) (c : yC) : Bool := match c with
  | .inl (ci, ts) => (match z_at zty ci with
    | some ty => y_shl ty ts 0
    | none => true)
  | .inr _ => true
theorem y_shb_ok {zty : List (Nat → FieldType)} {c : yC} (h : y_shb zty c = true) : y_shc zty c := by
  intro ci ts hc f t ty h1 h2
  subst hc
  have h : (match z_at zty ci with
    | some ty => y_shl ty ts 0
    | none => true) = true := h
  rw [z_at_eq, h1] at h
  have := y_shl_ok h f t h2
  rw [Nat.zero_add] at this
  exact this
theorem y_forall {α : Type} {P : α → Prop} {x : α} {l : List α} (h : P x) (t : ∀ y ∈ l, P y) : ∀ y ∈ x :: l, P y := List.forall_mem_cons.mpr ⟨h, t⟩
theorem y_fornil {α : Type} {P : α → Prop} : ∀ y ∈ ([] : List α), P y := fun _ h => absurd h List.not_mem_nil
