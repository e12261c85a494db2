-- the machine's steps, all together
theorem z_snd {tb : zTB} {nw : List Jvm.Cond} {cls : List vw_C} {zty : List (Nat → FieldType)} {zdv : List (List zAV)} {ms : List zMR} {l : Launch} {D : va_G} {sg : Nat → Int32} {b : Nat} (hA : z_All tb nw cls zty zdv ms) : ∀ n, z_Snd tb nw cls zty zdv ms l D sg b n
  | 0 => fun p e R s m args below meth c A ad0 lx mr Q _ k _ _ H locs cw tys ls cst cd pc lo st ce sl env w _ _ _ _ _ h => absurd (show false = true from h) Bool.false_ne_true
  | n + 1 => z_step_ok hA (z_snd hA n)
-- a class, as the tables have it
noncomputable def z_okC (tb : zTB) (c : vw_C) (ty : Nat → FieldType) (dv : List zAV) (ps : List Nat) (p1 p2 : Nat) : Bool :=
  and (and (z_w tb p1 (.instantiable c.1 c.2.2)) (z_w tb p2 (.initialized c.1))) (and ((List.range c.2.2).all (fun k => z_w tb (ps.getD k 0) (u_lay c.1 c.2.1 k))) (and (dv.all z_cvo) ((List.range c.2.2).all (fun k => and (decide (parseFieldDescriptor (c.2.1 k).2.2.1 = some (ty k))) (decide (defaultValue (ty k) = vp_V (dv.map z_cv) k))))))
theorem z_okC_ok {tb : zTB} {c : vw_C} {ty : Nat → FieldType} {dv : List zAV} {ps : List Nat} {p1 p2 : Nat} (h : z_okC tb c ty dv ps p1 p2 = true) (hn : ∀ a, a < c.2.2 → ∀ b, b < c.2.2 → a ≠ b → (c.2.1 a).2.1 ≠ (c.2.1 b).2.1) {zty : List (Nat → FieldType)} {zdv : List (List zAV)} {ci : Nat} (h1 : zty[ci]? = some ty) (h2 : zdv[ci]? = some dv) :
    (∀ x ∈ u_ws c.1 c.2.1 c.2.2, x ∈ z_G tb) ∧ (∀ a, a < c.2.2 → ∀ b, b < c.2.2 → a ≠ b → (c.2.1 a).2.1 ≠ (c.2.1 b).2.1) ∧ Jvm.Cond.instantiable c.1 c.2.2 ∈ z_G tb ∧ Jvm.Cond.initialized c.1 ∈ z_G tb ∧ ∃ (ty : Nat → FieldType) (dv : List zAV), zty[ci]? = some ty ∧ zdv[ci]? = some dv ∧ (∀ k, k < c.2.2 → parseFieldDescriptor (c.2.1 k).2.2.1 = some (ty k)) ∧ dv.all z_cvo = true ∧ ∀ j, j < c.2.2 → defaultValue (ty j) = vp_V (dv.map z_cv) j := by
  obtain ⟨a, b⟩ := z_and h
  obtain ⟨a1, a2⟩ := z_and a
  obtain ⟨b1, b2⟩ := z_and b
  obtain ⟨b3, b4⟩ := z_and b2
  have b5 := List.all_eq_true.mp b4
  refine ⟨fun x hx => ?_, hn, z_w_ok a1, z_w_ok a2, ty, dv, h1, h2, fun k hk => ?_, b3, fun k hk => ?_⟩
  · obtain ⟨k, hk, rfl⟩ := List.mem_map.mp hx
    exact z_w_ok (List.all_eq_true.mp b1 k hk)
  · exact of_decide_eq_true (z_and (b5 k (List.mem_range.mpr hk))).1
  · exact of_decide_eq_true (z_and (b5 k (List.mem_range.mpr hk))).2
-- a method, as the tables have it
def z_okP (tb : zTB) (nw : List Jvm.Cond) (cls : List vw_C) (ms : List zMR) (cm : zMR) : Prop := ((∃ p1 p2 p3 p4, z_okM tb cls cm p1 p2 p3 p4 = true) ∧ Jvm.Cond.code (z_y cm) (z_cc cm) (z_mL cm) (z_rt cm) ∈ z_G tb) ∧ ∀ x ∈ z_cd cm, z_okE tb nw cls ms cm x = true
theorem z_okP_of {tb : zTB} {nw : List Jvm.Cond} {cls : List vw_C} {ms : List zMR} {cm : zMR} (p1 p2 p3 p4 : Nat) (h0 : Jvm.Cond.code (z_y cm) (z_cc cm) (z_mL cm) (z_rt cm) ∈ z_G tb) (h1 : z_okM tb cls cm p1 p2 p3 p4 = true) (h2 : (z_cd cm).all (z_okE tb nw cls ms cm) = true) : z_okP tb nw cls ms cm := ⟨⟨⟨p1, p2, p3, p4, h1⟩, h0⟩, List.all_eq_true.mp h2⟩
theorem z_codeIn {tb : zTB} {ch i : Nat} {l : List Jvm.Cond} {y : MethodName} {cc : ByteArray} {mL : Nat} {rt : Option FieldType} (h1 : tb[ch]? = some l) (h2 : l[i]? = some (.code y cc mL rt)) : Jvm.Cond.code y cc mL rt ∈ z_G tb := List.mem_filter.mpr ⟨List.mem_flatten.mpr ⟨l, List.mem_of_getElem? h1, List.mem_of_getElem? h2⟩, rfl⟩
-- words that are no good words: nests, rows of objects
noncomputable def z_w0 (tb : zTB) (n : Nat) (c : Jvm.Cond) : Bool := match z_at tb (n / 1000) with
  | some l => decide (z_at l (n % 1000) = some c)
  | none => false
theorem z_w0_ok {tb : zTB} {n : Nat} {c : Jvm.Cond} (h : z_w0 tb n c = true) : c ∈ tb.flatten := by
  unfold z_w0 at h
  rw [z_at_eq] at h
  cases hl : tb[n / 1000]? with
  | none => rw [hl] at h; cases h
  | some l =>
    rw [hl] at h
    have h1 := of_decide_eq_true h
    rw [z_at_eq] at h1
    exact List.mem_flatten.mpr ⟨l, List.mem_of_getElem? hl, List.mem_of_getElem? h1⟩
-- where a run is cut
def z_eqE (x y : zAE) : Bool := match x, y with
  | .inl (a, f), .inl (b, g) => and (Nat.beq a b) (decide (f = g))
  | .inr (a, n, f), .inr (b, k, g) => and (and (Nat.beq a b) (Nat.beq n k)) (decide (f = g))
  | _, _ => false
theorem z_eqE_ok : ∀ {x y : zAE}, z_eqE x y = true → x = y
  | .inl (a, f), .inl (b, g), h => by
    have h : and (Nat.beq a b) (decide (f = g)) = true := h
    obtain ⟨h1, h2⟩ := z_and h
    rw [Nat.eq_of_beq_eq_true h1, of_decide_eq_true h2]
  | .inr (a, n, f), .inr (b, k, g), h => by
    have h : and (and (Nat.beq a b) (Nat.beq n k)) (decide (f = g)) = true := h
    obtain ⟨h1, h2⟩ := z_and h
    obtain ⟨h3, h4⟩ := z_and h1
    rw [Nat.eq_of_beq_eq_true h3, Nat.eq_of_beq_eq_true h4, of_decide_eq_true h2]
  | .inl _, .inr _, h => absurd (show false = true from h) Bool.false_ne_true
  | .inr _, .inl _, h => absurd (show false = true from h) Bool.false_ne_true
def z_emp (l : List zAE) : Bool := match l with
  | [] => true
  | _ :: _ => false
noncomputable def z_hd (l : List zAE) (f : zAE → List zAE → Bool) : Bool := match l with
  | [] => false
  | y :: ys => f y ys
noncomputable def z_eqW (l : List zAE) : List zAE → Bool :=
  List.rec (motive := fun _ => List zAE → Bool) z_emp (fun x _ ih l' => z_hd l' fun y ys => and (z_eqE x y) (ih ys)) l
theorem z_eqW_ok : ∀ {l l' : List zAE}, z_eqW l l' = true → l = l'
  | [], [], _ => rfl
  | [], _ :: _, h => absurd (show false = true from h) Bool.false_ne_true
  | _ :: _, [], h => absurd (show false = true from h) Bool.false_ne_true
  | x :: xs, y :: ys, h => by
    have h : and (z_eqE x y) (z_eqW xs ys) = true := h
    obtain ⟨h1, h2⟩ := z_and h
    rw [z_eqE_ok h1, z_eqW_ok h2]
noncomputable def z_eqS (pc0 : Nat) (lo0 : List (Nat × zAV)) (st0 : List zAV) (ce0 sl0 : Nat) (env0 : zEnv) (w0 : List zAE) : zKS := fun pc lo st ce sl env w => and (Nat.beq pc pc0) (and (decide (lo = lo0)) (and (decide (st = st0)) (and (and (Nat.beq ce ce0) (Nat.beq sl sl0)) (and (decide (env = env0)) (z_eqW w w0)))))
theorem z_eqS_ok {pc0 : Nat} {lo0 : List (Nat × zAV)} {st0 : List zAV} {ce0 sl0 : Nat} {env0 : zEnv} {w0 : List zAE} {pc : Nat} {lo : List (Nat × zAV)} {st : List zAV} {ce sl : Nat} {env : zEnv} {w : List zAE} (h : z_eqS pc0 lo0 st0 ce0 sl0 env0 w0 pc lo st ce sl env w = true) : pc = pc0 ∧ lo = lo0 ∧ st = st0 ∧ ce = ce0 ∧ sl = sl0 ∧ env = env0 ∧ w = w0 := by
  obtain ⟨h1, h2⟩ := z_and h
  obtain ⟨h3, h4⟩ := z_and h2
  obtain ⟨h5, h6⟩ := z_and h4
  obtain ⟨h7, h8⟩ := z_and h6
  obtain ⟨h9, h10⟩ := z_and h7
  obtain ⟨h11, h12⟩ := z_and h8
  exact ⟨Nat.eq_of_beq_eq_true h1, of_decide_eq_true h3, of_decide_eq_true h5, Nat.eq_of_beq_eq_true h9, Nat.eq_of_beq_eq_true h10, of_decide_eq_true h11, z_eqW_ok h12⟩
def z_nos : zKS := fun _ _ _ _ _ _ _ => false
/-- the law's end: it answers 1 -/
def z_k0 : zK := fun _ r _ => match r with
  | some (.inl u) => Nat.beq u 1
  | _ => false
