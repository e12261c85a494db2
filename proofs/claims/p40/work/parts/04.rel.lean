-- worlds
def z_cn (cls : List vw_C) (n : Nat) : String := match cls[n]? with
  | some q => q.1
  | none => ""
def z_kty (cls : List vw_C) : Nat → FieldType
  | 0 => .int
  | 1 => .byte
  | 2 => .boolean
  | 3 => .long
  | n + 4 => .object (z_cn cls n)
def z_DR (g : zAV → Value → Prop) : Nat → List zAV → ((Nat → Int32) ⊕ (Nat → Int64) ⊕ (Nat → UInt32) ⊕ (Nat → UInt64) ⊕ (Nat → Option Nat)) → Prop
  | 0, pr, d => ∃ f, d = .inl f ∧ ∀ j, g (pr.getD j (.inl 0)) (.int (f j))
  | 1, pr, d => ∃ f, d = .inl f ∧ ∀ j, g (pr.getD j (.inl 0)) (.int (f j))
  | 2, pr, d => ∃ f, d = .inl f ∧ ∀ j, g (pr.getD j (.inl 0)) (.int (f j))
  | 3, _, d => ∃ f, d = .inr (.inl f)
  | _ + 4, pr, d => ∃ f, d = .inr (.inr (.inr (.inr f))) ∧ ∀ j, g (pr.getD j z_null) (va_rf (f j))
def z_ER (cls : List vw_C) (g : zAV → Value → Prop) (tys : List (ClassId × FieldType)) : zAE → va_E → Prop
  | .inl f, .inr o => f.1 = o.1 ∧ z_SR g f.2 o.2
  | .inr f, .inl o => f.2.1 = o.2.1 ∧ (∃ t0 : Nat, tys[t0]? = some (o.1, z_kty cls f.1)) ∧ z_DR g f.1 f.2.2 o.2.2
  | _, _ => False
def z_WR (cls : List vw_C) (g : zAV → Value → Prop) (tys : List (ClassId × FieldType)) : List zAE → va_W → Prop
  | [], [] => True
  | e :: es, x :: xs => z_ER cls g tys e x.2 ∧ z_WR cls g tys es xs
  | _, _ => False
theorem z_DR_mono {g g' : zAV → Value → Prop} (h : ∀ a v, g a v → g' a v) {kd : Nat} {pr : List zAV} {d : (Nat → Int32) ⊕ (Nat → Int64) ⊕ (Nat → UInt32) ⊕ (Nat → UInt64) ⊕ (Nat → Option Nat)} (hd : z_DR g kd pr d) : z_DR g' kd pr d := by
  match kd, hd with
  | 0, ⟨f, h1, h2⟩ => exact ⟨f, h1, fun j => h _ _ (h2 j)⟩
  | 1, ⟨f, h1, h2⟩ => exact ⟨f, h1, fun j => h _ _ (h2 j)⟩
  | 2, ⟨f, h1, h2⟩ => exact ⟨f, h1, fun j => h _ _ (h2 j)⟩
  | 3, hd => exact hd
  | _ + 4, ⟨f, h1, h2⟩ => exact ⟨f, h1, fun j => h _ _ (h2 j)⟩
theorem z_ER_mono {cls : List vw_C} {g g' : zAV → Value → Prop} {tys tys' : List (ClassId × FieldType)} (h : ∀ a v, g a v → g' a v) (ht : ∀ (t0 : Nat) (q : ClassId × FieldType), tys[t0]? = some q → tys'[t0]? = some q) : ∀ {e : zAE} {x : va_E}, z_ER cls g tys e x → z_ER cls g' tys' e x
  | .inl _, .inr _, hs => ⟨hs.1, z_SR_mono h hs.2⟩
  | .inr _, .inl _, hs => ⟨hs.1, hs.2.1.elim fun t0 h0 => ⟨t0, ht t0 _ h0⟩, z_DR_mono h hs.2.2⟩
  | .inl _, .inl _, hs => hs.elim
  | .inr _, .inr _, hs => hs.elim
theorem z_WR_mono {cls : List vw_C} {g g' : zAV → Value → Prop} {tys tys' : List (ClassId × FieldType)} (h : ∀ a v, g a v → g' a v) (ht : ∀ (t0 : Nat) (q : ClassId × FieldType), tys[t0]? = some q → tys'[t0]? = some q) : ∀ {w : List zAE} {cw : va_W}, z_WR cls g tys w cw → z_WR cls g' tys' w cw
  | [], [], _ => trivial
  | _ :: _, _ :: _, hs => ⟨z_ER_mono h ht hs.1, z_WR_mono h ht hs.2⟩
  | [], _ :: _, hs => hs.elim
  | _ :: _, [], hs => hs.elim
theorem z_WR_len {cls : List vw_C} {g : zAV → Value → Prop} {tys : List (ClassId × FieldType)} : ∀ {w : List zAE} {cw : va_W}, z_WR cls g tys w cw → w.length = cw.length
  | [], [], _ => rfl
  | _ :: _, _ :: _, hs => by simp [z_WR_len hs.2]
  | [], _ :: _, hs => hs.elim
  | _ :: _, [], hs => hs.elim
theorem z_WR_get {cls : List vw_C} {g : zAV → Value → Prop} {tys : List (ClassId × FieldType)} : ∀ {w : List zAE} {cw : va_W} {k : Nat} {e : zAE}, z_WR cls g tys w cw → w[k]? = some e → ∃ x, cw[k]? = some x ∧ z_ER cls g tys e x.2
  | [], [], k, _, _, h => by simp at h
  | _ :: _, _ :: _, 0, _, hs, h => by simp at h; subst h; exact ⟨_, rfl, hs.1⟩
  | _ :: w, _ :: cw, k + 1, _, hs, h => by simpa using z_WR_get (w := w) (cw := cw) (k := k) hs.2 (by simpa using h)
  | [], _ :: _, _, _, hs, _ => hs.elim
  | _ :: _, [], _, _, hs, _ => hs.elim
theorem z_WR_set {cls : List vw_C} {g : zAV → Value → Prop} {tys : List (ClassId × FieldType)} {e : zAE} {a : Nat} {x : va_E} (he : z_ER cls g tys e x) : ∀ {w : List zAE} {cw : va_W} (k : Nat), z_WR cls g tys w cw → z_WR cls g tys (w.set k e) (cw.set k (a, x))
  | [], [], _, hs => hs
  | _ :: _, _ :: _, 0, hs => ⟨he, hs.2⟩
  | _ :: _, _ :: _, k + 1, hs => ⟨hs.1, z_WR_set he k hs.2⟩
  | [], _ :: _, _, hs => hs.elim
  | _ :: _, [], _, hs => hs.elim
theorem z_WR_push {cls : List vw_C} {g : zAV → Value → Prop} {tys : List (ClassId × FieldType)} {e : zAE} {x : Nat × va_E} (he : z_ER cls g tys e x.2) : ∀ {w : List zAE} {cw : va_W}, z_WR cls g tys w cw → z_WR cls g tys (w ++ [e]) (cw ++ [x])
  | [], [], _ => ⟨he, trivial⟩
  | _ :: _, _ :: _, hs => ⟨hs.1, z_WR_push he hs.2⟩
  | [], _ :: _, hs => hs.elim
  | _ :: _, [], hs => hs.elim
theorem z_fst_set {cw : va_W} {k a : Nat} {x x' : va_E} (h : cw[k]? = some (a, x)) : (cw.set k (a, x')).map Prod.fst = cw.map Prod.fst := by
  rw [List.map_set]
  apply List.ext_getElem?
  intro j
  by_cases hj : k = j
  · subst hj
    have hl : k < (cw.map Prod.fst).length := by rw [List.length_map]; exact (List.getElem?_eq_some_iff.mp h).1
    rw [List.getElem?_set_self hl, List.getElem?_map, h]
    rfl
  · rw [List.getElem?_set_ne hj]
theorem z_le_push (cw : va_W) (x : Nat × va_E) : z_le (cw.map Prod.fst) ((cw ++ [x]).map Prod.fst) := by
  intro k a h
  rw [List.map_append, List.getElem?_append_left (List.getElem?_eq_some_iff.mp h).1]
  exact h
theorem z_ref_at {cw : va_W} {k a : Nat} (h : (cw.map Prod.fst)[k]? = some a) {x : Nat × va_E} (hx : cw[k]? = some x) : x.1 = a := by
  rw [List.getElem?_map, hx] at h
  exact Option.some.inj h
-- words
abbrev zTB : Type := List (List Jvm.Cond)
def z_G (tb : zTB) : List Jvm.Cond := tb.flatten.filter goodWord
def z_ws (tb : zTB) (mr : zMR) : List Jvm.Cond := Jvm.Cond.code (z_y mr) (z_cc mr) (z_mL mr) (z_rt mr) :: z_G tb
def z_NW (nw : List Jvm.Cond) (s : State) : Prop := (∀ (a : String) (i : Nat) (y : MethodName) (h : String), Jvm.Cond.methodLinkNest a i y h ∈ nw → va_Nw (.methodLinkNest a i y h) s) ∧ ∀ C : String, Jvm.Cond.arrayOver (.object C) ∈ nw → va_AO C s
theorem z_NW_warm {nw : List Jvm.Cond} {s U : State} (hW : s.WarmedH U.vm) (h : z_NW nw s) : z_NW nw U := ⟨fun a i y hh q => (h.1 a i y hh q).warmM hW, fun C q => (h.2 C q).moved hW.alike⟩
theorem z_NW_same {nw : List Jvm.Cond} {s U : State} (hv : s.vm = U.vm) (h : z_NW nw s) : z_NW nw U := ⟨fun a i y hh q => (h.1 a i y hh q).same rfl hv, fun C q => (h.2 C q).moved (by rw [hv]; exact Vm.Alike.refl U.vm)⟩
/-- how long an instruction is, of those that are gone through -/
def z_il : Jvm.ClassFile.Instr → Nat
  | .getstatic _ => 3
  | .bipush _ => 2
  | .sipush _ => 3
  | .ldc _ => 2
  | .ldc_w _ => 3
  | .ldc2_w _ => 3
  | .lload _ => 2
  | .lstore _ => 2
  | .iload _ => 2
  | .aload _ => 2
  | .istore _ => 2
  | .astore _ => 2
  | .iinc _ _ => 3
  | .ifCond _ _ => 3
  | .if_icmp _ _ => 3
  | .ifnull _ => 3
  | .ifnonnull _ => 3
  | .goto _ => 3
  | .getfield _ => 3
  | .putfield _ => 3
  | .new _ => 3
  | .newarray _ => 2
  | .anewarray _ => 3
  | .invokevirtual _ => 3
  | .invokespecial _ => 3
  | .invokestatic _ => 3
  | _ => 1
def z_isw : Jvm.ClassFile.Instr → Bool
  | .tableswitch _ _ _ _ => true
  | .lookupswitch _ _ => true
  | _ => false
def z_dec (mr : zMR) (q : Nat) (i : Jvm.ClassFile.Instr) : Bool := match decode (z_cc mr) q with
  | .ok r => and (decide (r.1 = i)) (or (z_isw i) (decide (r.2 = z_il i)))
  | .error _ => false
theorem z_dec_ok {mr : zMR} {q : Nat} {i : Jvm.ClassFile.Instr} (h : z_dec mr q i = true) : ∃ n, decode (z_cc mr) q = .ok (i, n) ∧ (z_isw i = true ∨ n = z_il i) := by
  unfold z_dec at h
  cases hd : decode (z_cc mr) q with
  | error e => rw [hd] at h; cases h
  | ok r =>
    rw [hd] at h
    dsimp only at h
    rw [Bool.and_eq_true, Bool.or_eq_true] at h
    obtain ⟨i', n⟩ := r
    have h1 : i' = i := of_decide_eq_true h.1
    subst h1
    exact ⟨n, rfl, h.2.imp id of_decide_eq_true⟩
noncomputable def z_w (tb : zTB) (n : Nat) (c : Jvm.Cond) : Bool := match z_at tb (n / 1000) with
  | some l => and (decide (z_at l (n % 1000) = some c)) (goodWord c)
  | none => false
theorem z_w_ok {tb : zTB} {n : Nat} {c : Jvm.Cond} (h : z_w tb n c = true) : c ∈ z_G tb := by
  unfold z_w at h
  rw [z_at_eq] at h
  cases hl : tb[n / 1000]? with
  | none => rw [hl] at h; cases h
  | some l =>
    rw [hl] at h
    have h : and (decide (z_at l (n % 1000) = some c)) (goodWord c) = true := h
    rw [Bool.and_eq_true] at h
    have h1 := of_decide_eq_true h.1
    rw [z_at_eq] at h1
    exact List.mem_filter.mpr ⟨List.mem_flatten.mpr ⟨l, List.mem_of_getElem? hl, List.mem_of_getElem? h1⟩, h.2⟩
/-- what the tables must say of an instruction -/
noncomputable def z_okI (tb : zTB) (nw : List Jvm.Cond) (cls : List vw_C) (ms : List zMR) (mr : zMR) (q : Nat) (i : Jvm.ClassFile.Instr) (x1 x2 x3 : Nat) : Bool := match i with
  | .ldc j => z_w tb x3 (.constant (z_y mr).cls j (nI x1))
  | .ifCond _ o => decide ((q : Int) + o = (x1 : Int))
  | .if_icmp _ o => decide ((q : Int) + o = (x1 : Int))
  | .ifnull o => decide ((q : Int) + o = (x1 : Int))
  | .ifnonnull o => decide ((q : Int) + o = (x1 : Int))
  | .goto o => decide ((q : Int) + o = (x1 : Int))
  | .getfield j => (match cls[x1]? with
    | some c => and (Nat.blt x2 c.2.2) (z_w tb x3 (.fieldLink (z_y mr).cls j (c.2.1 x2).1 (c.2.1 x2).2.1 (c.2.1 x2).2.2.1))
    | none => false)
  | .putfield j => (match cls[x1]? with
    | some c => and (and (Nat.blt x2 c.2.2) (z_w tb x3 (.fieldLink (z_y mr).cls j (c.2.1 x2).1 (c.2.1 x2).2.1 (c.2.1 x2).2.2.1))) (or (decide ((c.2.1 x2).2.2.2 = false)) (and (decide ((z_y mr).name = "<init>")) (decide ((c.2.1 x2).1 = (z_y mr).cls))))
    | none => false)
  | .new j => (match cls[x1]? with
    | some c => z_w tb x3 (.classLink (z_y mr).cls j c.1)
    | none => false)
  | .anewarray j => (match cls[x1]? with
    | some c => and (z_w tb x3 (.classLink (z_y mr).cls j c.1)) (decide (nw[x2]? = some (.arrayOver (.object c.1))))
    | none => false)
  | .invokevirtual j => (match ms[x1]? with
    | some cm => and (and (Nat.blt (z_ci cm) 100) (decide ((z_y cm).name ≠ "<init>"))) (and (decide ((parseMethodDescriptor (z_y cm).desc).map (fun d => d.parameters.length) = some (x2 % 100))) (z_w tb x3 (.methodLink (z_y mr).cls j (z_y cm))))
    | none => false)
  | .invokestatic j => (match ms[x1]? with
    | some cm => and (Nat.ble 100 (z_ci cm)) (and (decide ((parseMethodDescriptor (z_y cm).desc).map (fun d => d.parameters.length) = some (x2 % 100))) (cond (Nat.ble 100 x2) (match nw[x3]? with
        | some (.methodLinkNest a b y _) => and (and (decide (a = (z_y mr).cls)) (decide (b = j))) (decide (y = z_y cm))
        | _ => false) (and (z_w tb x3 (.methodLink (z_y mr).cls j (z_y cm))) (decide ((z_y cm).cls = (z_y mr).cls)))))
    | none => false)
  | .invokespecial j => cond (Nat.beq x2 50) (z_w tb x3 (.methodLink (z_y mr).cls j objectInit)) (match ms[x1]? with
    | some cm => and (and (Nat.blt (z_ci cm) 100) (and (decide ((z_y cm).name = "<init>")) (decide (z_rt cm = none)))) (and (decide ((parseMethodDescriptor (z_y cm).desc).map (fun d => d.parameters.length) = some (x2 % 100))) (cond (Nat.ble 100 x2) (match nw[x3]? with
        | some (.methodLinkNest a b y _) => and (and (decide (a = (z_y mr).cls)) (decide (b = j))) (decide (y = z_y cm))
        | _ => false) (z_w tb x3 (.methodLink (z_y mr).cls j (z_y cm)))))
    | none => false)
  | _ => true
noncomputable def z_okE (tb : zTB) (nw : List Jvm.Cond) (cls : List vw_C) (ms : List zMR) (mr : zMR) (x : zEnt) : Bool := and (z_dec mr x.1 x.2.1) (z_okI tb nw cls ms mr x.1 x.2.1 x.2.2.1 x.2.2.2.1 x.2.2.2.2)
/-- what the tables must say of a method: p1 its code, p2 its kind, p3 what it selects, p4 that its owner is ready -/
noncomputable def z_okM (tb : zTB) (cls : List vw_C) (mr : zMR) (p1 p2 p3 p4 : Nat) : Bool :=
  and (and (and (Nat.ble 0 p1) (z_w tb p4 (.initialized (z_y mr).cls))) (and (plainName (z_y mr).cls) (and (decide ((z_y mr).cls ≠ "java/lang/invoke/MethodHandle")) (decide ((z_y mr).cls ≠ "java/lang/invoke/VarHandle")))))
    (cond (Nat.blt (z_ci mr) 100) (and (and (z_w tb p2 (.instanceMethod (z_y mr))) (or (decide ((z_y mr).name = "<init>")) (z_w tb p3 (.selects (z_y mr).cls (z_y mr) (z_y mr))))) (decide ((cls[z_ci mr]?).map (fun c => c.1) = some (z_y mr).cls))) (z_w tb p2 (.static (z_y mr))))
theorem z_nest_ok {nw : List Jvm.Cond} {x3 j : Nat} {own : String} {yy : MethodName} (h : (match nw[x3]? with
    | some (.methodLinkNest a b y _) => and (and (decide (a = own)) (decide (b = j))) (decide (y = yy))
    | _ => false) = true) : ∃ host, Jvm.Cond.methodLinkNest own j yy host ∈ nw := by
  split at h
  · rename_i a b y hh hn
    have h1 : and (and (decide (a = own)) (decide (b = j))) (decide (y = yy)) = true := h
    rw [Bool.and_eq_true, Bool.and_eq_true] at h1
    have e1 := of_decide_eq_true h1.1.1
    have e2 := of_decide_eq_true h1.1.2
    have e3 := of_decide_eq_true h1.2
    subst e1; subst e2; subst e3
    exact ⟨hh, List.mem_of_getElem? hn⟩
  · cases h
