/-! A machine of abstract states: a run of it that ends in 'true' stands for every run of the real machine that it covers -/
abbrev zAV : Type := Nat ⊕ (Nat ⊕ (Option Nat ⊕ Nat))
abbrev zAE : Type := (Nat × List zAV) ⊕ (Nat × Nat × List zAV)
abbrev zEnv : Type := List (Nat × Nat)
abbrev zEnt : Type := Nat × Jvm.ClassFile.Instr × Nat × Nat × Nat
abbrev zMR : Type := MethodName × ByteArray × Nat × Option FieldType × Room × Nat × List zEnt
abbrev zK : Type := zEnv → Option zAV → List zAE → Bool
abbrev zKS : Type := Nat → List (Nat × zAV) → List zAV → Nat → Nat → zEnv → List zAE → Bool
abbrev zLX : Type := Nat × zKS
abbrev zGo : Type := zLX → zMR → List zEnt → Nat → List (Nat × zAV) → List zAV → Nat → Nat → zEnv → List zAE → zK → Bool
abbrev z_y (r : zMR) : MethodName := r.1
abbrev z_cc (r : zMR) : ByteArray := r.2.1
abbrev z_mL (r : zMR) : Nat := r.2.2.1
abbrev z_rt (r : zMR) : Option FieldType := r.2.2.2.1
abbrev z_rm (r : zMR) : Room := r.2.2.2.2.1
abbrev z_ci (r : zMR) : Nat := r.2.2.2.2.2.1
abbrev z_cd (r : zMR) : List zEnt := r.2.2.2.2.2.2
abbrev z_null : zAV := .inr (.inr (.inl none))
abbrev z_any : zAV := .inr (.inr (.inr 0))
abbrev z_lng : zAV := .inr (.inr (.inr 1))
abbrev z_scr : zAV := .inr (.inr (.inr 2))
abbrev z_rf (k : Nat) : zAV := .inr (.inr (.inl (some k)))
abbrev z_sy (i : Nat) : zAV := .inr (.inl i)
def z_l0 : zLX := (0, fun _ _ _ _ _ _ _ => false)
-- numbers are made plain before they are kept
noncomputable def z_frc {β : Type} (n : Nat) (k : Nat → β) : β := Nat.casesOn (motive := fun _ => β) n (k 0) (fun m => k (Nat.succ m))
theorem z_frc_eq {β : Type} (n : Nat) (k : Nat → β) : z_frc n k = k n := by cases n <;> rfl
def z_un (x : Int32) : Nat := x.toBitVec.toNat
def z_bu (u : Nat) : Nat := (u + 2147483648) % 4294967296
-- lists
noncomputable def z_at {α : Type} (l : List α) : Nat → Option α :=
  List.rec (motive := fun _ => Nat → Option α) (fun _ => none) (fun x _ ih i => Nat.casesOn (motive := fun _ => Option α) i (some x) (fun j => ih j)) l
theorem z_at_eq {α : Type} (l : List α) : ∀ i : Nat, z_at l i = l[i]? := by
  induction l with
  | nil => intro i; rfl
  | cons x xs ih =>
    intro i
    cases i with
    | zero => rfl
    | succ j => exact (ih j).trans (by simp)
noncomputable def z_gk {α : Type} (d : α) (l : List α) : Nat → (α → Bool) → Bool :=
  List.rec (motive := fun _ => Nat → (α → Bool) → Bool) (fun _ k => k d) (fun x _ ih i k => Nat.casesOn (motive := fun _ => Bool) i (k x) (fun j => ih j k)) l
theorem z_gk_eq {α : Type} (d : α) (l : List α) : ∀ (i : Nat) (k : α → Bool), z_gk d l i k = k (l.getD i d) := by
  induction l with
  | nil => intro i k; rfl
  | cons x xs ih =>
    intro i k
    cases i with
    | zero => rfl
    | succ j => exact (ih j k).trans (by simp)
noncomputable def z_set {α β : Type} (l : List α) : Nat → α → (List α → β) → β :=
  List.rec (motive := fun _ => Nat → α → (List α → β) → β) (fun _ _ k => k []) (fun x xs ih i v k => Nat.casesOn (motive := fun _ => β) i (k (v :: xs)) (fun j => ih j v (fun t => k (x :: t)))) l
theorem z_set_eq {α β : Type} (l : List α) : ∀ (i : Nat) (v : α) (k : List α → β), z_set l i v k = k (l.set i v) := by
  induction l with
  | nil => intro i v k; rfl
  | cons x xs ih =>
    intro i v k
    cases i with
    | zero => rfl
    | succ j => exact ih j v (fun t => k (x :: t))
noncomputable def z_pad {β : Type} (d v : zAV) (i : Nat) : (List zAV → β) → β :=
  Nat.rec (motive := fun _ => (List zAV → β) → β) (fun k => k [v]) (fun _ ih k => ih (fun t => k (d :: t))) i
noncomputable def z_pst {β : Type} (d v : zAV) (l : List zAV) : Nat → (List zAV → β) → β :=
  List.rec (motive := fun _ => Nat → (List zAV → β) → β) (fun i k => z_pad d v i k) (fun x xs ih i k => Nat.casesOn (motive := fun _ => β) i (k (v :: xs)) (fun j => ih j (fun t => k (x :: t)))) l
theorem z_pad_eq {β : Type} (d v : zAV) (i : Nat) : ∃ l' : List zAV, (∀ k : List zAV → β, z_pad d v i k = k l') ∧ ∀ j, l'.getD j d = if j = i then v else d := by
  induction i with
  | zero =>
    refine ⟨[v], fun _ => rfl, fun j => ?_⟩
    cases j <;> simp
  | succ i ih =>
    obtain ⟨l', h1, h2⟩ := ih
    refine ⟨d :: l', fun k => h1 (fun t => k (d :: t)), fun j => ?_⟩
    cases j with
    | zero => simp
    | succ j => simpa using h2 j
theorem z_pst_eq {β : Type} (d v : zAV) (l : List zAV) : ∀ i : Nat, ∃ l' : List zAV, (∀ k : List zAV → β, z_pst d v l i k = k l') ∧ ∀ j, l'.getD j d = if j = i then v else l.getD j d := by
  induction l with
  | nil =>
    intro i
    obtain ⟨l', h1, h2⟩ := z_pad_eq (β := β) d v i
    exact ⟨l', h1, fun j => by rw [h2]; simp⟩
  | cons x xs ih =>
    intro i
    cases i with
    | zero =>
      refine ⟨v :: xs, fun _ => rfl, fun j => ?_⟩
      cases j <;> simp
    | succ i =>
      obtain ⟨l', h1, h2⟩ := ih i
      refine ⟨x :: l', fun k => h1 (fun t => k (x :: t)), fun j => ?_⟩
      cases j with
      | zero => simp
      | succ j => simpa using h2 j
noncomputable def z_lk (lo : List (Nat × zAV)) (i : Nat) : Option zAV :=
  List.rec (motive := fun _ => Option zAV) none (fun q _ ih => cond (Nat.beq q.1 i) (some q.2) ih) lo
noncomputable def z_del {β : Type} (lo : List (Nat × zAV)) (i : Nat) : (List (Nat × zAV) → β) → β :=
  List.rec (motive := fun _ => (List (Nat × zAV) → β) → β) (fun k => k []) (fun q _ ih k => cond (Nat.beq q.1 i) (ih k) (ih (fun t => k (q :: t)))) lo
theorem z_del_eq {β : Type} (lo : List (Nat × zAV)) (i : Nat) : ∀ k : List (Nat × zAV) → β, z_del lo i k = k (lo.filter (fun q => !(Nat.beq q.1 i))) := by
  induction lo with
  | nil => intro k; rfl
  | cons q qs ih =>
    intro k
    show cond (Nat.beq q.1 i) (z_del qs i k) (z_del qs i (fun t => k (q :: t))) = _
    rw [ih k, ih (fun t => k (q :: t))]
    cases h : Nat.beq q.1 i <;> simp [h]
noncomputable def z_from (l : List zEnt) (t : Nat) : List zEnt :=
  List.rec (motive := fun _ => List zEnt) [] (fun e es ih => cond (Nat.beq e.1 t) (e :: es) ih) l
theorem z_from_sub (l : List zEnt) (t : Nat) : ∀ x ∈ z_from l t, x ∈ l := by
  induction l with
  | nil => intro x h; exact h
  | cons e es ih =>
    intro x h
    have h : x ∈ cond (Nat.beq e.1 t) (e :: es) (z_from es t) := h
    cases hb : Nat.beq e.1 t with
    | true => rw [hb] at h; exact h
    | false => rw [hb] at h; exact List.mem_cons_of_mem _ (ih x h)
noncomputable def z_en (l : List zAV) : Nat → List (Nat × zAV) :=
  List.rec (motive := fun _ => Nat → List (Nat × zAV)) (fun _ => []) (fun a _ ih i => (i, a) :: ih (Nat.succ i)) l
/-- n values off the stack, the deepest first -/
noncomputable def z_pop (n : Nat) : List zAV → List zAV → (List zAV → List zAV → Bool) → Bool :=
  Nat.rec (motive := fun _ => List zAV → List zAV → (List zAV → List zAV → Bool) → Bool) (fun acc st k => k acc st) (fun _ ih acc st k => match st with | [] => false | a :: t => ih (a :: acc) t k) n
-- kinds of values
def z_isI : zAV → Bool
  | .inl _ => true
  | .inr (.inl _) => true
  | .inr (.inr (.inl _)) => false
  | .inr (.inr (.inr n)) => Nat.beq n 0
def z_isR : zAV → Bool
  | .inl _ => false
  | .inr (.inl _) => false
  | .inr (.inr (.inl _)) => true
  | .inr (.inr (.inr n)) => Nat.ble 2 n
def z_c1 : zAV → Bool
  | .inr (.inr (.inr n)) => !(Nat.beq n 1)
  | _ => true
def z_isB : zAV → Bool
  | .inl 0 => true
  | .inl 1 => true
  | _ => false
def z_isL : zAV → Bool
  | .inr (.inr (.inr n)) => Nat.beq n 1
  | _ => false
def z_isO : zAV → Bool
  | .inr (.inr (.inl _)) => true
  | _ => false
def z_fit : FieldType → zAV → Bool
  | .int, a => z_isI a
  | .boolean, a => z_isB a
  | .long, a => z_isL a
  | .object _, a => z_isO a
  | .array _, a => z_isO a
  | _, _ => false
noncomputable def z_len (l : List zAV) : Nat := List.rec (motive := fun _ => Nat) 0 (fun _ _ ih => Nat.succ ih) l
noncomputable def z_all (f : zAV → Bool) (l : List zAV) : Bool := List.rec (motive := fun _ => Bool) true (fun a _ ih => and (f a) ih) l
-- what an environment says of a sign
def z_rs (env : zEnv) (a : zAV) : zAV := match a with
  | .inr (.inl i) => (match env[i]? with
    | some q => cond (Nat.beq q.1 q.2) (.inl (z_bu q.1)) (.inr (.inl i))
    | none => .inr (.inl i))
  | a => a
noncomputable def z_spl (i : Nat) (env : zEnv) (t : Nat) (L G : zEnv → Bool) : Bool := match env[i]? with
  | some (lo, hi) => and (cond (Nat.blt lo t) (z_frc (Nat.min hi (t - 1)) fun h => z_set env i (lo, h) L) true) (cond (Nat.ble t hi) (z_frc (Nat.max lo t) fun l => z_set env i (l, hi) G) true)
  | none => false
noncomputable def z_brS (c : Jvm.ClassFile.Cond) (i : Nat) (v : Nat) (env : zEnv) (T F : zEnv → Bool) : Bool := match c with
  | .lt => z_spl i env v T F
  | .ge => z_spl i env v F T
  | .le => z_spl i env (v + 1) T F
  | .gt => z_spl i env (v + 1) F T
  | .eq => z_spl i env v F (fun e1 => z_spl i e1 (v + 1) T F)
  | .ne => z_spl i env v T (fun e1 => z_spl i e1 (v + 1) F T)
def z_flip : Jvm.ClassFile.Cond → Jvm.ClassFile.Cond
  | .lt => .gt
  | .ge => .le
  | .le => .ge
  | .gt => .lt
  | .eq => .eq
  | .ne => .ne
def z_cmp (c : Jvm.ClassFile.Cond) (x y : Nat) : Bool := match c with
  | .eq => Nat.beq x y
  | .ne => !(Nat.beq x y)
  | .lt => Nat.blt x y
  | .ge => Nat.ble y x
  | .gt => Nat.blt y x
  | .le => Nat.ble x y
noncomputable def z_alR (lo n : Nat) (f : Nat → Bool) : Bool := Nat.rec (motive := fun _ => Bool) true (fun j ih => and (f (lo + j)) ih) n
noncomputable def z_con (env : zEnv) (i : Nat) (re : zEnv → Bool) : Bool := match env[i]? with
  | some q => cond (Nat.ble (q.2 - q.1) 64) (z_alR q.1 (q.2 - q.1 + 1) (fun v => z_frc v fun v => z_set env i (v, v) re)) false
  | none => false
noncomputable def z_br (c : Jvm.ClassFile.Cond) (a b : zAV) (env : zEnv) (re T F : zEnv → Bool) : Bool := match a, b with
  | .inl x, .inl y => cond (z_cmp c (z_bu x) (z_bu y)) (T env) (F env)
  | .inr (.inl i), .inl y => z_brS c i (z_bu y) env T F
  | .inl x, .inr (.inl i) => z_brS (z_flip c) i (z_bu x) env T F
  | .inr (.inl i), .inr (.inl _) => z_con env i re
  | _, _ => false
/-- a place in a row: known, or a sign whose values are gone through one by one -/
noncomputable def z_ix (env : zEnv) (a : zAV) (n : Nat) (re : zEnv → Bool) (k : Nat → Bool) : Bool := match z_rs env a with
  | .inl u => cond (and (Nat.blt u n) (Nat.ble n 2147483647)) (k u) false
  | .inr (.inl i) => z_con env i re
  | _ => false
noncomputable def z_bin (f : Int32 → Int32 → Int32) (env : zEnv) (a b : zAV) (k : zAV → Bool) : Bool := match z_rs env a, z_rs env b with
  | .inl x, .inl y => z_frc (z_un (f (nI x) (nI y))) (fun u => k (.inl u))
  | a', b' => and (and (z_isI a') (z_isI b')) (k z_any)
def z_dfA : Nat → zAV
  | 0 => .inl 0
  | 1 => .inl 0
  | 2 => .inl 0
  | 3 => z_lng
  | _ => z_null
def z_stA (kd : Nat) (a : zAV) : Option zAV := match kd with
  | 0 => cond (z_isI a) (some a) none
  | 1 => cond (z_isI a) (some z_any) none
  | 2 => cond (z_isB a) (some a) none
  | _ => none
noncomputable def z_akd (t : ArrayType) : Option Nat := match t with
  | .int => some 0
  | .byte => some 1
  | .boolean => some 2
  | .long => some 3
  | _ => none
noncomputable def z_ld (f : zAV → Bool) (lo : List (Nat × zAV)) (j : Nat) (k : zAV → Bool) : Bool := match z_lk lo j with
  | some a => cond (f a) (k a) false
  | none => false
noncomputable def z_sto (f : zAV → Bool) (mr : zMR) (lo : List (Nat × zAV)) (j : Nat) (st : List zAV) (k : List (Nat × zAV) → List zAV → Bool) : Bool := match st with
  | a :: t => cond (and (f a) (Nat.blt j (z_mL mr))) (z_del lo j fun lo' => k ((j, a) :: lo') t) false
  | [] => false
noncomputable def z_b2 (st : List zAV) (k : zAV → zAV → List zAV → Bool) : Bool := match st with
  | b :: a :: t => k a b t
  | _ => false
noncomputable def z_app (w : List zAE) (e : zAE) : (List zAE → Bool) → Bool :=
  List.rec (motive := fun _ => (List zAE → Bool) → Bool) (fun k => k [e]) (fun x _ ih k => ih (fun t => k (x :: t))) w
theorem z_app_eq (w : List zAE) (e : zAE) : ∀ k, z_app w e k = k (w ++ [e]) := by
  induction w with
  | nil => intro k; rfl
  | cons x xs ih => intro k; exact ih (fun t => k (x :: t))
noncomputable def z_lnE (w : List zAE) : Nat := List.rec (motive := fun _ => Nat) 0 (fun _ _ ih => Nat.succ ih) w
theorem z_lnE_eq (w : List zAE) : z_lnE w = w.length := by
  induction w with
  | nil => rfl
  | cons x xs ih => show Nat.succ (z_lnE xs) = _; rw [ih]; rfl
theorem z_len_eq (w : List zAV) : z_len w = w.length := by
  induction w with
  | nil => rfl
  | cons x xs ih => show Nat.succ (z_len xs) = _; rw [ih]; rfl
/-- a new cell: the stack gets its place -/
noncomputable def z_mk (mr : zMR) (ce sl N : Nat) (w : List zAE) (e : zAE) (k : Nat → List zAE → Nat → Nat → Bool) : Bool :=
  cond (and (Nat.ble (ce + 1) (z_rm mr).cells) (Nat.ble (sl + N) (z_rm mr).slots)) (z_frc (z_lnE w) fun a => z_app w e fun w' => z_frc (ce + 1) fun ce' => z_frc (sl + N) fun sl' => k a w' ce' sl') false
def z_arg (a : zAV) : Bool := or (z_isI a) (z_isO a)
noncomputable def z_call (go : zGo) (mr cm : zMR) (as t : List zAV) (ce sl : Nat) (env : zEnv) (w : List zAE) (cont : zEnv → List zAV → Nat → Nat → List zAE → Bool) : Bool :=
  cond (and (and (and (z_all z_arg as) (and (z_all z_c1 t) (Nat.ble (z_len t) 8))) (Nat.ble (z_len as) (z_mL cm))) (and (and (Nat.ble ((z_rm cm).frames + 1) (z_rm mr).frames) (Nat.ble (8 + (z_mL cm + 11) + (z_rm cm).locals) (z_rm mr).locals)) (and (Nat.ble (ce + (z_rm cm).cells) (z_rm mr).cells) (Nat.ble (sl + (z_rm cm).slots) (z_rm mr).slots))))
    (z_frc (ce + (z_rm cm).cells) fun ce' => z_frc (sl + (z_rm cm).slots) fun sl' => go z_l0 cm (z_cd cm) 0 (z_en as 0) [] 0 0 env w (fun env' rv w' => match rv with | none => cont env' t ce' sl' w' | some a => cont env' (a :: t) ce' sl' w')) false
noncomputable def z_p1 (st : List zAV) (f : zAV → List zAV → Bool) : Bool := match st with
  | a :: t => f a t
  | [] => false
noncomputable def z_pr (st : List zAV) (f : Nat → List zAV → Bool) : Bool := match st with
  | .inr (.inr (.inl (some a))) :: t => f a t
  | _ => false
noncomputable def z_one (st : List zAV) (f : zAV → Bool) : Bool := match st with
  | [a] => f a
  | _ => false
noncomputable def z_op {α : Type} (o : Option α) (f : α → Bool) : Bool := match o with
  | some a => f a
  | none => false
noncomputable def z_opl {α : Type} (l : List α) (i : Nat) (f : α → Bool) : Bool := z_op (z_at l i) f
noncomputable def z_ob (w : List zAE) (a : Nat) (f : Nat → List zAV → Bool) : Bool := match z_at w a with
  | some (.inl (ci, fs)) => f ci fs
  | _ => false
noncomputable def z_ar (w : List zAE) (a : Nat) (f : Nat → Nat → List zAV → Bool) : Bool := match z_at w a with
  | some (.inr (kd, n, pr)) => f kd n pr
  | _ => false
def z_nul (v : zAV) (A B : Bool) : Bool := match v with
  | .inr (.inr (.inl none)) => A
  | .inr (.inr (.inl (some _))) => B
  | _ => false
noncomputable def z_rsc (v : zAV) (f : Nat → Bool) (g : Bool) : Bool := match v with
  | .inr (.inr (.inl (some a))) => f a
  | .inr (.inr (.inr 2)) => g
  | _ => false
noncomputable def z_lx (lx : zLX) (f : Nat → Bool) : Bool := match lx.1 with
  | 0 => false
  | L + 1 => f L
noncomputable def z_ks (v : zAV) (f g : Nat → Bool) : Bool := match v with
  | .inl u => f u
  | .inr (.inl j) => g j
  | _ => false
def z_rti (rt : Option FieldType) (a : zAV) : Bool := match rt with
  | some .int => z_isI a
  | some .boolean => z_isB a
  | _ => false
def z_rto (rt : Option FieldType) (a : zAV) : Bool := match rt with
  | some (.object _) => z_isO a
  | some (.array _) => z_isO a
  | _ => false
def z_nil (st : List zAV) (rt : Option FieldType) : Bool := match st, rt with
  | [], none => true
  | _, _ => false
/-- past a switch: to the place that an offset names -/
noncomputable def z_to (q : Nat) (o : Int) (f : Nat → Bool) : Bool := z_frc ((q : Int) + o).toNat fun tg => cond (decide ((q : Int) + o = (tg : Int))) (f tg) false
def z_srt (ps : Array (Int × Int)) : Bool := (ps.toList.zip (ps.toList.drop 1)).all (fun (a, next) => a.1 < next.1)
abbrev zH : Type := List vw_C → List (Nat → FieldType) → List (List zAV) → List zMR → zGo → (zEnv → Bool) → zLX → zMR → Nat → Nat → Nat → Nat → List zEnt → List (Nat × zAV) → List zAV → Nat → Nat → zEnv → List zAE → zK → Bool
def z_no : zH := fun _ _ _ _ _ _ _ _ _ _ _ _ _ _ _ _ _ _ _ _ => false
noncomputable def z_h_iconst (n : Int) : zH := fun cls zty zdv ms go re lx mr q x1 x2 x3 r lo st ce sl env w k =>
  z_frc (z_un (Int32.ofInt n)) fun u => go lx mr r (q + 1) lo (.inl u :: st) ce sl env w k
noncomputable def z_h_bipush (n : Int) : zH := fun cls zty zdv ms go re lx mr q x1 x2 x3 r lo st ce sl env w k =>
  z_frc (z_un (Int8.ofInt n).toInt32) fun u => go lx mr r (q + 2) lo (.inl u :: st) ce sl env w k
noncomputable def z_h_sipush (n : Int) : zH := fun cls zty zdv ms go re lx mr q x1 x2 x3 r lo st ce sl env w k =>
  z_frc (z_un (Int16.ofInt n).toInt32) fun u => go lx mr r (q + 3) lo (.inl u :: st) ce sl env w k
noncomputable def z_h_ldc (_ : Nat) : zH := fun cls zty zdv ms go re lx mr q x1 x2 x3 r lo st ce sl env w k =>
  z_frc x1 fun u => go lx mr r (q + 2) lo (.inl u :: st) ce sl env w k
noncomputable def z_h_lconst (_ : Fin 2) : zH := fun cls zty zdv ms go re lx mr q x1 x2 x3 r lo st ce sl env w k =>
  go lx mr r (q + 1) lo (z_lng :: st) ce sl env w k
noncomputable def z_h_aconst_null : zH := fun cls zty zdv ms go re lx mr q x1 x2 x3 r lo st ce sl env w k =>
  go lx mr r (q + 1) lo (z_null :: st) ce sl env w k
noncomputable def z_h_iload_n (j : Fin 4) : zH := fun cls zty zdv ms go re lx mr q x1 x2 x3 r lo st ce sl env w k =>
  z_ld z_isI lo j.val fun a => go lx mr r (q + 1) lo (a :: st) ce sl env w k
noncomputable def z_h_iload (j : Nat) : zH := fun cls zty zdv ms go re lx mr q x1 x2 x3 r lo st ce sl env w k =>
  z_ld z_isI lo j fun a => go lx mr r (q + 2) lo (a :: st) ce sl env w k
noncomputable def z_h_aload_n (j : Fin 4) : zH := fun cls zty zdv ms go re lx mr q x1 x2 x3 r lo st ce sl env w k =>
  z_ld z_isR lo j.val fun a => go lx mr r (q + 1) lo (a :: st) ce sl env w k
noncomputable def z_h_aload (j : Nat) : zH := fun cls zty zdv ms go re lx mr q x1 x2 x3 r lo st ce sl env w k =>
  z_ld z_isR lo j fun a => go lx mr r (q + 2) lo (a :: st) ce sl env w k
noncomputable def z_h_istore_n (j : Fin 4) : zH := fun cls zty zdv ms go re lx mr q x1 x2 x3 r lo st ce sl env w k =>
  z_sto z_isI mr lo j.val st fun lo' t => go lx mr r (q + 1) lo' t ce sl env w k
noncomputable def z_h_istore (j : Nat) : zH := fun cls zty zdv ms go re lx mr q x1 x2 x3 r lo st ce sl env w k =>
  z_sto z_isI mr lo j st fun lo' t => go lx mr r (q + 2) lo' t ce sl env w k
noncomputable def z_h_astore_n (j : Fin 4) : zH := fun cls zty zdv ms go re lx mr q x1 x2 x3 r lo st ce sl env w k =>
  z_sto z_isO mr lo j.val st fun lo' t => go lx mr r (q + 1) lo' t ce sl env w k
noncomputable def z_h_astore (j : Nat) : zH := fun cls zty zdv ms go re lx mr q x1 x2 x3 r lo st ce sl env w k =>
  z_sto z_isO mr lo j st fun lo' t => go lx mr r (q + 2) lo' t ce sl env w k
noncomputable def z_h_iinc (j : Nat) (n : Int) : zH := fun cls zty zdv ms go re lx mr q x1 x2 x3 r lo st ce sl env w k =>
  z_ld z_isI lo j fun a => z_bin (fun x y => x + y) env a (.inl (z_un (Int32.ofInt n))) fun v => cond (Nat.blt j (z_mL mr)) (z_del lo j fun lo' => go lx mr r (q + 3) ((j, v) :: lo') st ce sl env w k) false
noncomputable def z_h_iadd : zH := fun cls zty zdv ms go re lx mr q x1 x2 x3 r lo st ce sl env w k =>
  z_b2 st fun a b t => z_bin (fun x y => x + y) env a b fun v => go lx mr r (q + 1) lo (v :: t) ce sl env w k
noncomputable def z_h_isub : zH := fun cls zty zdv ms go re lx mr q x1 x2 x3 r lo st ce sl env w k =>
  z_b2 st fun a b t => z_bin (fun x y => x - y) env a b fun v => go lx mr r (q + 1) lo (v :: t) ce sl env w k
noncomputable def z_h_imul : zH := fun cls zty zdv ms go re lx mr q x1 x2 x3 r lo st ce sl env w k =>
  z_b2 st fun a b t => z_bin (fun x y => x * y) env a b fun v => go lx mr r (q + 1) lo (v :: t) ce sl env w k
noncomputable def z_h_iand : zH := fun cls zty zdv ms go re lx mr q x1 x2 x3 r lo st ce sl env w k =>
  z_b2 st fun a b t => z_bin (fun x y => x &&& y) env a b fun v => go lx mr r (q + 1) lo (v :: t) ce sl env w k
noncomputable def z_h_ior : zH := fun cls zty zdv ms go re lx mr q x1 x2 x3 r lo st ce sl env w k =>
  z_b2 st fun a b t => z_bin (fun x y => x ||| y) env a b fun v => go lx mr r (q + 1) lo (v :: t) ce sl env w k
noncomputable def z_h_ishl : zH := fun cls zty zdv ms go re lx mr q x1 x2 x3 r lo st ce sl env w k =>
  z_b2 st fun a b t => z_bin (fun x y => x <<< (y &&& 31)) env a b fun v => go lx mr r (q + 1) lo (v :: t) ce sl env w k
noncomputable def z_h_ishr : zH := fun cls zty zdv ms go re lx mr q x1 x2 x3 r lo st ce sl env w k =>
  z_b2 st fun a b t => z_bin (fun x y => x >>> (y &&& 31)) env a b fun v => go lx mr r (q + 1) lo (v :: t) ce sl env w k
noncomputable def z_h_iushr : zH := fun cls zty zdv ms go re lx mr q x1 x2 x3 r lo st ce sl env w k =>
  z_b2 st fun a b t => z_bin (fun x y => (x.toUInt32 >>> (y.toUInt32 &&& Int32.toUInt32 31)).toInt32) env a b fun v => go lx mr r (q + 1) lo (v :: t) ce sl env w k
noncomputable def z_h_irem : zH := fun cls zty zdv ms go re lx mr q x1 x2 x3 r lo st ce sl env w k =>
  z_b2 st fun a b t => z_ks (z_rs env b) (fun y => cond (Nat.beq (z_bu y) 2147483648) false (z_bin (fun x y => x - x / y * y) env a (.inl y) fun v => go lx mr r (q + 1) lo (v :: t) ce sl env w k)) (fun _ => false)
noncomputable def z_h_i2b : zH := fun cls zty zdv ms go re lx mr q x1 x2 x3 r lo st ce sl env w k =>
  z_p1 st fun a t => z_bin (fun x _ => x.toInt8.toInt32) env a (.inl 0) fun v => go lx mr r (q + 1) lo (v :: t) ce sl env w k
noncomputable def z_h_ifCond (c : Jvm.ClassFile.Cond) (_ : Int) : zH := fun cls zty zdv ms go re lx mr q x1 x2 x3 r lo st ce sl env w k =>
  z_p1 st fun a t => z_br c (z_rs env a) (.inl 0) env re (fun e => go lx mr (z_from (z_cd mr) x1) x1 lo t ce sl e w k) (fun e => go lx mr r (q + 3) lo t ce sl e w k)
noncomputable def z_h_if_icmp (c : Jvm.ClassFile.Cond) (_ : Int) : zH := fun cls zty zdv ms go re lx mr q x1 x2 x3 r lo st ce sl env w k =>
  z_b2 st fun a b t => z_br c (z_rs env a) (z_rs env b) env re (fun e => go lx mr (z_from (z_cd mr) x1) x1 lo t ce sl e w k) (fun e => go lx mr r (q + 3) lo t ce sl e w k)
noncomputable def z_h_ifnull (_ : Int) : zH := fun cls zty zdv ms go re lx mr q x1 x2 x3 r lo st ce sl env w k =>
  z_p1 st fun v t => z_nul v (go lx mr (z_from (z_cd mr) x1) x1 lo t ce sl env w k) (go lx mr r (q + 3) lo t ce sl env w k)
noncomputable def z_h_ifnonnull (_ : Int) : zH := fun cls zty zdv ms go re lx mr q x1 x2 x3 r lo st ce sl env w k =>
  z_p1 st fun v t => z_nul v (go lx mr r (q + 3) lo t ce sl env w k) (go lx mr (z_from (z_cd mr) x1) x1 lo t ce sl env w k)
noncomputable def z_h_goto (_ : Int) : zH := fun cls zty zdv ms go re lx mr q x1 x2 x3 r lo st ce sl env w k =>
  go lx mr (z_from (z_cd mr) x1) x1 lo st ce sl env w k
noncomputable def z_h_dup : zH := fun cls zty zdv ms go re lx mr q x1 x2 x3 r lo st ce sl env w k =>
  z_p1 st fun a t => cond (z_c1 a) (go lx mr r (q + 1) lo (a :: a :: t) ce sl env w k) false
noncomputable def z_h_tableswitch (d : Int) (l0 : Int) (h0 : Int) (offs : Array Int) : zH := fun cls zty zdv ms go re lx mr q x1 x2 x3 r lo st ce sl env w k =>
  z_p1 st fun a t => z_ks (z_rs env a)
        (fun u => cond (or (decide ((nI u).toInt < l0)) (decide (h0 < (nI u).toInt))) (z_to q d fun tg => go lx mr (z_from (z_cd mr) tg) tg lo t ce sl env w k) (z_op offs[((nI u).toInt - l0).toNat]? fun o => z_to q o fun tg => go lx mr (z_from (z_cd mr) tg) tg lo t ce sl env w k))
        (fun j => cond (and (decide ((x2 : Int) = l0 + 2147483648)) (decide ((x3 : Int) = h0 + 2147483649))) (z_to q d fun tg => z_spl j env x2 (fun e => go lx mr (z_from (z_cd mr) tg) tg lo t ce sl e w k) (fun e => z_spl j e x3 (fun e => z_con e j re) (fun e => go lx mr (z_from (z_cd mr) tg) tg lo t ce sl e w k))) false)
noncomputable def z_h_lookupswitch (d : Int) (ps : Array (Int × Int)) : zH := fun cls zty zdv ms go re lx mr q x1 x2 x3 r lo st ce sl env w k =>
  z_p1 st fun a t => z_ks (z_rs env a)
        (fun u => cond (z_srt ps) (z_to q (Op.lookupswitch.offset ps.toList d (nI u).toInt) fun tg => go lx mr (z_from (z_cd mr) tg) tg lo t ce sl env w k) false)
        (fun j => cond (and (z_srt ps) (ps.toList.all (fun p => and (decide ((x2 : Int) ≤ p.1 + 2147483648)) (decide (p.1 + 2147483648 < (x3 : Int)))))) (z_to q d fun tg => z_spl j env x2 (fun e => go lx mr (z_from (z_cd mr) tg) tg lo t ce sl e w k) (fun e => z_spl j e x3 (fun e => z_con e j re) (fun e => go lx mr (z_from (z_cd mr) tg) tg lo t ce sl e w k))) false)
noncomputable def z_h_getfield (_ : Nat) : zH := fun cls zty zdv ms go re lx mr q x1 x2 x3 r lo st ce sl env w k =>
  z_pr st fun a t => z_ob w a fun ci fs => cond (Nat.beq ci x1) (z_opl fs x2 fun v => go lx mr r (q + 3) lo (v :: t) ce sl env w k) false
noncomputable def z_h_putfield (_ : Nat) : zH := fun cls zty zdv ms go re lx mr q x1 x2 x3 r lo st ce sl env w k =>
  z_p1 st fun v st1 => z_pr st1 fun a t => z_ob w a fun ci fs => cond (Nat.beq ci x1) (z_opl fs x2 fun _ => z_opl zty x1 fun ty => cond (z_fit (ty x2) v) (z_set fs x2 v fun fs' => z_set w a (.inl (ci, fs')) fun w' => go lx mr r (q + 3) lo t ce sl env w' k) false) false
noncomputable def z_h_new (_ : Nat) : zH := fun cls zty zdv ms go re lx mr q x1 x2 x3 r lo st ce sl env w k =>
  z_opl cls x1 fun c => z_opl zdv x1 fun dv => z_mk mr ce sl c.2.2 w (.inl (x1, dv)) fun a w' ce' sl' => go lx mr r (q + 3) lo (z_rf a :: st) ce' sl' env w' k
noncomputable def z_h_newarray (ty : ArrayType) : zH := fun cls zty zdv ms go re lx mr q x1 x2 x3 r lo st ce sl env w k =>
  z_p1 st fun n t => z_ks (z_rs env n) (fun u => z_op (z_akd ty) fun kd => cond (Nat.ble u 60000000) (z_mk mr ce sl u w (.inr (kd, u, [])) fun a w' ce' sl' => go lx mr r (q + 2) lo (z_rf a :: t) ce' sl' env w' k) false) (fun _ => false)
noncomputable def z_h_anewarray (_ : Nat) : zH := fun cls zty zdv ms go re lx mr q x1 x2 x3 r lo st ce sl env w k =>
  z_p1 st fun n t => z_ks (z_rs env n) (fun u => cond (Nat.ble u 60000000) (z_mk mr ce sl u w (.inr (x1 + 4, u, [])) fun a w' ce' sl' => go lx mr r (q + 3) lo (z_rf a :: t) ce' sl' env w' k) false) (fun _ => false)
noncomputable def z_h_arraylength : zH := fun cls zty zdv ms go re lx mr q x1 x2 x3 r lo st ce sl env w k =>
  z_p1 st fun v t => z_rsc v (fun a => z_ar w a fun _ n _ => go lx mr r (q + 1) lo (.inl n :: t) ce sl env w k) (z_lx lx fun L => go lx mr r (q + 1) lo (.inl L :: t) ce sl env w k)
noncomputable def z_h_iaload : zH := fun cls zty zdv ms go re lx mr q x1 x2 x3 r lo st ce sl env w k =>
  z_p1 st fun j st1 => z_p1 st1 fun v t => z_rsc v (fun a => z_ar w a fun kd n pr => cond (Nat.beq kd 0) (z_ix env j n re fun u => z_gk (.inl 0) pr u fun v => go lx mr r (q + 1) lo (v :: t) ce sl env w k) false) (z_lx lx fun L => z_ix env j L re fun u => go lx mr r (q + 1) lo (z_sy u :: t) ce sl env w k)
noncomputable def z_h_baload : zH := fun cls zty zdv ms go re lx mr q x1 x2 x3 r lo st ce sl env w k =>
  z_p1 st fun j st1 => z_pr st1 fun a t => z_ar w a fun kd n pr => cond (or (Nat.beq kd 1) (Nat.beq kd 2)) (z_ix env j n re fun u => z_gk (.inl 0) pr u fun v => go lx mr r (q + 1) lo (v :: t) ce sl env w k) false
noncomputable def z_h_aaload : zH := fun cls zty zdv ms go re lx mr q x1 x2 x3 r lo st ce sl env w k =>
  z_p1 st fun j st1 => z_pr st1 fun a t => z_ar w a fun kd n pr => cond (Nat.ble 4 kd) (z_ix env j n re fun u => z_gk z_null pr u fun v => go lx mr r (q + 1) lo (v :: t) ce sl env w k) false
noncomputable def z_h_iastore : zH := fun cls zty zdv ms go re lx mr q x1 x2 x3 r lo st ce sl env w k =>
  z_p1 st fun v st1 => z_p1 st1 fun j st2 => z_pr st2 fun a t => z_ar w a fun kd n pr => cond (and (Nat.beq kd 0) (z_isI v)) (z_ix env j n re fun u => z_pst (.inl 0) v pr u fun pr' => z_set w a (.inr (kd, n, pr')) fun w' => go lx mr r (q + 1) lo t ce sl env w' k) false
noncomputable def z_h_bastore : zH := fun cls zty zdv ms go re lx mr q x1 x2 x3 r lo st ce sl env w k =>
  z_p1 st fun v st1 => z_p1 st1 fun j st2 => z_pr st2 fun a t => z_ar w a fun kd n pr => cond (and (Nat.beq kd 1) (z_isI v)) (z_ix env j n re fun u => z_pst (.inl 0) z_any pr u fun pr' => z_set w a (.inr (kd, n, pr')) fun w' => go lx mr r (q + 1) lo t ce sl env w' k)
        (cond (and (Nat.beq kd 2) (z_isB v)) (z_ix env j n re fun u => z_pst (.inl 0) v pr u fun pr' => z_set w a (.inr (kd, n, pr')) fun w' => go lx mr r (q + 1) lo t ce sl env w' k) false)
noncomputable def z_h_aastore : zH := fun cls zty zdv ms go re lx mr q x1 x2 x3 r lo st ce sl env w k =>
  z_pr st fun b st1 => z_p1 st1 fun j st2 => z_pr st2 fun a t => z_ar w a fun kd n pr => z_ob w b fun ci _ => cond (Nat.beq kd (ci + 4)) (z_ix env j n re fun u => z_pst z_null (z_rf b) pr u fun pr' => z_set w a (.inr (kd, n, pr')) fun w' => go lx mr r (q + 1) lo t ce sl env w' k) false
noncomputable def z_h_invokevirtual (_ : Nat) : zH := fun cls zty zdv ms go re lx mr q x1 x2 x3 r lo st ce sl env w k =>
  z_pop (x2 % 100) [] st fun as st1 => z_pr st1 fun a t => z_opl ms x1 fun cm => z_ob w a fun ci _ => cond (Nat.beq ci (z_ci cm)) (z_call go mr cm (z_rf a :: as) t ce sl env w fun env' t' ce' sl' w' => go lx mr r (q + 3) lo t' ce' sl' env' w' k) false
noncomputable def z_h_invokestatic (_ : Nat) : zH := fun cls zty zdv ms go re lx mr q x1 x2 x3 r lo st ce sl env w k =>
  z_pop (x2 % 100) [] st fun as t => z_opl ms x1 fun cm => z_call go mr cm as t ce sl env w fun env' t' ce' sl' w' => go lx mr r (q + 3) lo t' ce' sl' env' w' k
noncomputable def z_h_invokespecial (_ : Nat) : zH := fun cls zty zdv ms go re lx mr q x1 x2 x3 r lo st ce sl env w k =>
  cond (Nat.beq x2 50) (z_pr st fun _ t => cond (and (and (z_all z_c1 t) (Nat.ble (z_len t) 8)) (and (Nat.ble 1 (z_rm mr).frames) (Nat.ble 20 (z_rm mr).locals))) (go lx mr r (q + 3) lo t ce sl env w k) false)
      (z_pop (x2 % 100) [] st fun as st1 => z_pr st1 fun a t => z_opl ms x1 fun cm => z_call go mr cm (z_rf a :: as) t ce sl env w fun env' t' ce' sl' w' => go lx mr r (q + 3) lo t' ce' sl' env' w' k)
noncomputable def z_h_ireturn : zH := fun cls zty zdv ms go re lx mr q x1 x2 x3 r lo st ce sl env w k =>
  z_one st fun a => cond (z_rti (z_rt mr) a) (k env (some a) w) false
noncomputable def z_h_areturn : zH := fun cls zty zdv ms go re lx mr q x1 x2 x3 r lo st ce sl env w k =>
  z_one st fun a => cond (z_rto (z_rt mr) a) (k env (some a) w) false
noncomputable def z_h_return_ : zH := fun cls zty zdv ms go re lx mr q x1 x2 x3 r lo st ce sl env w k =>
  cond (z_nil st (z_rt mr)) (k env none w) false
noncomputable def z_ins (i : Jvm.ClassFile.Instr) : zH :=
  Jvm.ClassFile.Instr.rec (motive := fun _ => zH) z_h_aaload z_h_aastore z_h_aconst_null z_h_aload z_h_aload_n z_h_anewarray z_h_areturn z_h_arraylength z_h_astore z_h_astore_n z_no z_h_baload z_h_bastore z_h_bipush z_no z_no (fun _ => z_no) z_no z_no z_no z_no z_no z_no (fun _ => z_no) (fun _ => z_no) z_no (fun _ => z_no) (fun _ => z_no) z_no z_no z_no z_no (fun _ => z_no) (fun _ => z_no) z_no z_h_dup z_no z_no z_no z_no z_no z_no z_no z_no z_no z_no z_no (fun _ => z_no) (fun _ => z_no) z_no (fun _ => z_no) (fun _ => z_no) z_no z_no z_no z_no (fun _ => z_no) (fun _ => z_no) z_no z_h_getfield (fun _ => z_no) z_h_goto (fun _ => z_no) z_h_i2b z_no z_no z_no z_no z_no z_h_iadd z_h_iaload z_h_iand z_h_iastore z_h_iconst z_no (fun _ _ => z_no) z_h_if_icmp z_h_ifCond z_h_ifnonnull z_h_ifnull z_h_iinc z_h_iload z_h_iload_n z_h_imul z_no (fun _ => z_no) (fun _ => z_no) (fun _ _ => z_no) z_h_invokespecial z_h_invokestatic z_h_invokevirtual z_h_ior z_h_irem z_h_ireturn z_h_ishl z_h_ishr z_h_istore z_h_istore_n z_h_isub z_h_iushr z_no (fun _ => z_no) (fun _ => z_no) z_no z_no z_no z_no z_no z_no z_no z_no z_h_lconst z_h_ldc (fun _ => z_no) (fun _ => z_no) z_no (fun _ => z_no) (fun _ => z_no) z_no z_no z_h_lookupswitch z_no z_no z_no z_no z_no (fun _ => z_no) (fun _ => z_no) z_no z_no z_no z_no z_no (fun _ _ => z_no) z_h_new z_h_newarray z_no z_no z_no z_h_putfield (fun _ => z_no) (fun _ => z_no) z_h_return_ z_no z_no z_h_sipush z_no z_h_tableswitch i
noncomputable def z_step (cls : List vw_C) (zty : List (Nat → FieldType)) (zdv : List (List zAV)) (ms : List zMR) (go : zGo) : zGo := fun lx mr cd pc lo st ce sl env w k => match cd with
  | [] => lx.2 pc lo st ce sl env w
  | (q, i, x1, x2, x3) :: r => cond (Nat.beq q pc) (z_ins i cls zty zdv ms go (fun env' => go lx mr ((q, i, x1, x2, x3) :: r) pc lo st ce sl env' w k) lx mr q x1 x2 x3 r lo st ce sl env w k) false
noncomputable def z_ev (cls : List vw_C) (zty : List (Nat → FieldType)) (zdv : List (List zAV)) (ms : List zMR) (n : Nat) : zGo :=
  Nat.rec (motive := fun _ => zGo) (fun _ _ _ _ _ _ _ _ _ _ _ => false) (fun _ go => z_step cls zty zdv ms go) n
