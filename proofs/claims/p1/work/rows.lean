section
/-! A machine of abstract states: a run of it that ends in 'true' stands for every run of the real machine that it covers -/
abbrev zAV : Type := Nat ⊕ (Nat ⊕ (Option Nat ⊕ Nat))
abbrev zAE : Type := (Nat × List zAV) ⊕ (Nat × Nat × List zAV)
abbrev zEnv : Type := List (Nat × Nat)
abbrev zEnt : Type := Nat × Jvm.ClassFile.Instr × Nat × Nat × Nat
abbrev zMR : Type := MethodName × ByteArray × Nat × Option FieldType × Room × Nat × List zEnt
abbrev zK : Type := zEnv → Option zAV → List zAE → Bool
abbrev zKS : Type := Nat → List (Nat × zAV) → List zAV → Nat → Nat → zEnv → List zAE → Bool
abbrev zLX : Type := Nat × zKS
abbrev zGo : Type := zLX → zMR → List zEnt → Nat → List (Nat × zAV) → List zAV → Nat → Nat → zEnv → List zAE → zK → Bool
abbrev z_y (r : zMR) : MethodName := r.1
abbrev z_cc (r : zMR) : ByteArray := r.2.1
abbrev z_mL (r : zMR) : Nat := r.2.2.1
abbrev z_rt (r : zMR) : Option FieldType := r.2.2.2.1
abbrev z_rm (r : zMR) : Room := r.2.2.2.2.1
abbrev z_ci (r : zMR) : Nat := r.2.2.2.2.2.1
abbrev z_cd (r : zMR) : List zEnt := r.2.2.2.2.2.2
abbrev z_null : zAV := .inr (.inr (.inl none))
abbrev z_any : zAV := .inr (.inr (.inr 0))
abbrev z_lng : zAV := .inr (.inr (.inr 1))
abbrev z_scr : zAV := .inr (.inr (.inr 2))
abbrev z_rf (k : Nat) : zAV := .inr (.inr (.inl (some k)))
abbrev z_sy (i : Nat) : zAV := .inr (.inl i)
def z_l0 : zLX := (0, fun _ _ _ _ _ _ _ => false)
-- numbers are made plain before they are kept
noncomputable def z_frc {β : Type} (n : Nat) (k : Nat → β) : β := Nat.casesOn (motive := fun _ => β) n (k 0) (fun m => k (Nat.succ m))
theorem z_frc_eq {β : Type} (n : Nat) (k : Nat → β) : z_frc n k = k n := by cases n <;> rfl
def z_un (x : Int32) : Nat := x.toBitVec.toNat
def z_bu (u : Nat) : Nat := (u + 2147483648) % 4294967296
-- lists
noncomputable def z_set {α β : Type} (l : List α) : Nat → α → (List α → β) → β :=
  List.rec (motive := fun _ => Nat → α → (List α → β) → β) (fun _ _ k => k []) (fun x xs ih i v k => Nat.casesOn (motive := fun _ => β) i (k (v :: xs)) (fun j => ih j v (fun t => k (x :: t)))) l
theorem z_set_eq {α β : Type} (l : List α) : ∀ (i : Nat) (v : α) (k : List α → β), z_set l i v k = k (l.set i v) := by
  induction l with
  | nil => intro i v k; rfl
  | cons x xs ih =>
    intro i v k
    cases i with
    | zero => rfl
    | succ j => exact ih j v (fun t => k (x :: t))
noncomputable def z_pad {β : Type} (d v : zAV) (i : Nat) : (List zAV → β) → β :=
  Nat.rec (motive := fun _ => (List zAV → β) → β) (fun k => k [v]) (fun _ ih k => ih (fun t => k (d :: t))) i
noncomputable def z_pst {β : Type} (d v : zAV) (l : List zAV) : Nat → (List zAV → β) → β :=
  List.rec (motive := fun _ => Nat → (List zAV → β) → β) (fun i k => z_pad d v i k) (fun x xs ih i k => Nat.casesOn (motive := fun _ => β) i (k (v :: xs)) (fun j => ih j (fun t => k (x :: t)))) l
theorem z_pad_eq {β : Type} (d v : zAV) (i : Nat) : ∃ l' : List zAV, (∀ k : List zAV → β, z_pad d v i k = k l') ∧ ∀ j, l'.getD j d = if j = i then v else d := by
  induction i with
  | zero =>
    refine ⟨[v], fun _ => rfl, fun j => ?_⟩
    cases j <;> simp
  | succ i ih =>
    obtain ⟨l', h1, h2⟩ := ih
    refine ⟨d :: l', fun k => h1 (fun t => k (d :: t)), fun j => ?_⟩
    cases j with
    | zero => simp
    | succ j => simpa using h2 j
theorem z_pst_eq {β : Type} (d v : zAV) (l : List zAV) : ∀ i : Nat, ∃ l' : List zAV, (∀ k : List zAV → β, z_pst d v l i k = k l') ∧ ∀ j, l'.getD j d = if j = i then v else l.getD j d := by
  induction l with
  | nil =>
    intro i
    obtain ⟨l', h1, h2⟩ := z_pad_eq (β := β) d v i
    exact ⟨l', h1, fun j => by rw [h2]; simp⟩
  | cons x xs ih =>
    intro i
    cases i with
    | zero =>
      refine ⟨v :: xs, fun _ => rfl, fun j => ?_⟩
      cases j <;> simp
    | succ i =>
      obtain ⟨l', h1, h2⟩ := ih i
      refine ⟨x :: l', fun k => h1 (fun t => k (x :: t)), fun j => ?_⟩
      cases j with
      | zero => simp
      | succ j => simpa using h2 j
noncomputable def z_lk (lo : List (Nat × zAV)) (i : Nat) : Option zAV :=
  List.rec (motive := fun _ => Option zAV) none (fun q _ ih => cond (Nat.beq q.1 i) (some q.2) ih) lo
noncomputable def z_del {β : Type} (lo : List (Nat × zAV)) (i : Nat) : (List (Nat × zAV) → β) → β :=
  List.rec (motive := fun _ => (List (Nat × zAV) → β) → β) (fun k => k []) (fun q _ ih k => cond (Nat.beq q.1 i) (ih k) (ih (fun t => k (q :: t)))) lo
theorem z_del_eq {β : Type} (lo : List (Nat × zAV)) (i : Nat) : ∀ k : List (Nat × zAV) → β, z_del lo i k = k (lo.filter (fun q => !(Nat.beq q.1 i))) := by
  induction lo with
  | nil => intro k; rfl
  | cons q qs ih =>
    intro k
    show cond (Nat.beq q.1 i) (z_del qs i k) (z_del qs i (fun t => k (q :: t))) = _
    rw [ih k, ih (fun t => k (q :: t))]
    cases h : Nat.beq q.1 i <;> simp [h]
noncomputable def z_from (l : List zEnt) (t : Nat) : List zEnt :=
  List.rec (motive := fun _ => List zEnt) [] (fun e es ih => cond (Nat.beq e.1 t) (e :: es) ih) l
theorem z_from_sub (l : List zEnt) (t : Nat) : ∀ x ∈ z_from l t, x ∈ l := by
  induction l with
  | nil => intro x h; exact h
  | cons e es ih =>
    intro x h
    have h : x ∈ cond (Nat.beq e.1 t) (e :: es) (z_from es t) := h
    cases hb : Nat.beq e.1 t with
    | true => rw [hb] at h; exact h
    | false => rw [hb] at h; exact List.mem_cons_of_mem _ (ih x h)
noncomputable def z_en (l : List zAV) : Nat → List (Nat × zAV) :=
  List.rec (motive := fun _ => Nat → List (Nat × zAV)) (fun _ => []) (fun a _ ih i => (i, a) :: ih (Nat.succ i)) l
/-- n values off the stack, the deepest first -/
noncomputable def z_pop (n : Nat) : List zAV → List zAV → (List zAV → List zAV → Bool) → Bool :=
  Nat.rec (motive := fun _ => List zAV → List zAV → (List zAV → List zAV → Bool) → Bool) (fun acc st k => k acc st) (fun _ ih acc st k => match st with | [] => false | a :: t => ih (a :: acc) t k) n
-- kinds of values
def z_isI : zAV → Bool
  | .inl _ => true
  | .inr (.inl _) => true
  | .inr (.inr (.inl _)) => false
  | .inr (.inr (.inr n)) => Nat.beq n 0
def z_isR : zAV → Bool
  | .inl _ => false
  | .inr (.inl _) => false
  | .inr (.inr (.inl _)) => true
  | .inr (.inr (.inr n)) => Nat.ble 2 n
def z_c1 : zAV → Bool
  | .inr (.inr (.inr n)) => !(Nat.beq n 1)
  | _ => true
def z_isB : zAV → Bool
  | .inl 0 => true
  | .inl 1 => true
  | _ => false
def z_isL : zAV → Bool
  | .inr (.inr (.inr n)) => Nat.beq n 1
  | _ => false
def z_isO : zAV → Bool
  | .inr (.inr (.inl _)) => true
  | _ => false
def z_fit : FieldType → zAV → Bool
  | .int, a => z_isI a
  | .boolean, a => z_isB a
  | .long, a => z_isL a
  | .object _, a => z_isO a
  | .array _, a => z_isO a
  | _, _ => false
noncomputable def z_len (l : List zAV) : Nat := List.rec (motive := fun _ => Nat) 0 (fun _ _ ih => Nat.succ ih) l
noncomputable def z_all (f : zAV → Bool) (l : List zAV) : Bool := List.rec (motive := fun _ => Bool) true (fun a _ ih => and (f a) ih) l
-- what an environment says of a sign
def z_rs (env : zEnv) (a : zAV) : zAV := match a with
  | .inr (.inl i) => (match env[i]? with
    | some q => cond (Nat.beq q.1 q.2) (.inl (z_bu q.1)) (.inr (.inl i))
    | none => .inr (.inl i))
  | a => a
noncomputable def z_spl (i : Nat) (env : zEnv) (t : Nat) (L G : zEnv → Bool) : Bool := match env[i]? with
  | some q => and (cond (Nat.blt q.1 t) (z_set env i (q.1, Nat.min q.2 (t - 1)) L) true) (cond (Nat.ble t q.2) (z_set env i (Nat.max q.1 t, q.2) G) true)
  | none => false
noncomputable def z_brS (c : Jvm.ClassFile.Cond) (i : Nat) (v : Nat) (env : zEnv) (T F : zEnv → Bool) : Bool := match c with
  | .lt => z_spl i env v T F
  | .ge => z_spl i env v F T
  | .le => z_spl i env (v + 1) T F
  | .gt => z_spl i env (v + 1) F T
  | .eq => z_spl i env v F (fun e1 => z_spl i e1 (v + 1) T F)
  | .ne => z_spl i env v T (fun e1 => z_spl i e1 (v + 1) F T)
def z_flip : Jvm.ClassFile.Cond → Jvm.ClassFile.Cond
  | .lt => .gt
  | .ge => .le
  | .le => .ge
  | .gt => .lt
  | .eq => .eq
  | .ne => .ne
def z_cmp (c : Jvm.ClassFile.Cond) (x y : Nat) : Bool := match c with
  | .eq => Nat.beq x y
  | .ne => !(Nat.beq x y)
  | .lt => Nat.blt x y
  | .ge => Nat.ble y x
  | .gt => Nat.blt y x
  | .le => Nat.ble x y
noncomputable def z_alR (lo n : Nat) (f : Nat → Bool) : Bool := Nat.rec (motive := fun _ => Bool) true (fun j ih => and (f (lo + j)) ih) n
noncomputable def z_con (env : zEnv) (i : Nat) (re : zEnv → Bool) : Bool := match env[i]? with
  | some q => cond (Nat.ble (q.2 - q.1) 64) (z_alR q.1 (q.2 - q.1 + 1) (fun v => z_frc v fun v => z_set env i (v, v) re)) false
  | none => false
noncomputable def z_br (c : Jvm.ClassFile.Cond) (a b : zAV) (env : zEnv) (re T F : zEnv → Bool) : Bool := match a, b with
  | .inl x, .inl y => cond (z_cmp c (z_bu x) (z_bu y)) (T env) (F env)
  | .inr (.inl i), .inl y => z_brS c i (z_bu y) env T F
  | .inl x, .inr (.inl i) => z_brS (z_flip c) i (z_bu x) env T F
  | .inr (.inl i), .inr (.inl _) => z_con env i re
  | _, _ => false
/-- a place in a row: known, or a sign whose values are gone through one by one -/
noncomputable def z_ix (env : zEnv) (a : zAV) (n : Nat) (re : zEnv → Bool) (k : Nat → Bool) : Bool := match z_rs env a with
  | .inl u => cond (and (Nat.blt u n) (Nat.ble n 2147483647)) (k u) false
  | .inr (.inl i) => z_con env i re
  | _ => false
noncomputable def z_bin (f : Int32 → Int32 → Int32) (env : zEnv) (a b : zAV) (k : zAV → Bool) : Bool := match z_rs env a, z_rs env b with
  | .inl x, .inl y => z_frc (z_un (f (nI x) (nI y))) (fun u => k (.inl u))
  | a', b' => and (and (z_isI a') (z_isI b')) (k z_any)
def z_dfA : Nat → zAV
  | 0 => .inl 0
  | 1 => .inl 0
  | 2 => .inl 0
  | 3 => z_lng
  | _ => z_null
def z_stA (kd : Nat) (a : zAV) : Option zAV := match kd with
  | 0 => cond (z_isI a) (some a) none
  | 1 => cond (z_isI a) (some z_any) none
  | 2 => cond (z_isB a) (some a) none
  | _ => none
noncomputable def z_akd (t : ArrayType) : Option Nat := match t with
  | .int => some 0
  | .byte => some 1
  | .boolean => some 2
  | .long => some 3
  | _ => none
noncomputable def z_ld (f : zAV → Bool) (lo : List (Nat × zAV)) (j : Nat) (k : zAV → Bool) : Bool := match z_lk lo j with
  | some a => cond (f a) (k a) false
  | none => false
noncomputable def z_sto (f : zAV → Bool) (mr : zMR) (lo : List (Nat × zAV)) (j : Nat) (st : List zAV) (k : List (Nat × zAV) → List zAV → Bool) : Bool := match st with
  | a :: t => cond (and (f a) (Nat.blt j (z_mL mr))) (z_del lo j fun lo' => k ((j, a) :: lo') t) false
  | [] => false
noncomputable def z_b2 (st : List zAV) (k : zAV → zAV → List zAV → Bool) : Bool := match st with
  | b :: a :: t => k a b t
  | _ => false
noncomputable def z_app (w : List zAE) (e : zAE) : (List zAE → Bool) → Bool :=
  List.rec (motive := fun _ => (List zAE → Bool) → Bool) (fun k => k [e]) (fun x _ ih k => ih (fun t => k (x :: t))) w
theorem z_app_eq (w : List zAE) (e : zAE) : ∀ k, z_app w e k = k (w ++ [e]) := by
  induction w with
  | nil => intro k; rfl
  | cons x xs ih => intro k; exact ih (fun t => k (x :: t))
noncomputable def z_lnE (w : List zAE) : Nat := List.rec (motive := fun _ => Nat) 0 (fun _ _ ih => Nat.succ ih) w
theorem z_lnE_eq (w : List zAE) : z_lnE w = w.length := by
  induction w with
  | nil => rfl
  | cons x xs ih => show Nat.succ (z_lnE xs) = _; rw [ih]; rfl
theorem z_len_eq (w : List zAV) : z_len w = w.length := by
  induction w with
  | nil => rfl
  | cons x xs ih => show Nat.succ (z_len xs) = _; rw [ih]; rfl
/-- a new cell: the stack gets its place -/
noncomputable def z_mk (mr : zMR) (ce sl N : Nat) (w : List zAE) (e : zAE) (k : Nat → List zAE → Nat → Nat → Bool) : Bool :=
  cond (and (Nat.ble (ce + 1) (z_rm mr).cells) (Nat.ble (sl + N) (z_rm mr).slots)) (z_frc (z_lnE w) fun a => z_app w e fun w' => z_frc (ce + 1) fun ce' => z_frc (sl + N) fun sl' => k a w' ce' sl') false
def z_arg (a : zAV) : Bool := or (z_isI a) (z_isO a)
noncomputable def z_call (go : zGo) (mr cm : zMR) (as t : List zAV) (ce sl : Nat) (env : zEnv) (w : List zAE) (cont : zEnv → List zAV → Nat → Nat → List zAE → Bool) : Bool :=
  cond (and (and (and (z_all z_arg as) (and (z_all z_c1 t) (Nat.ble (z_len t) 8))) (Nat.ble (z_len as) (z_mL cm))) (and (and (Nat.ble ((z_rm cm).frames + 1) (z_rm mr).frames) (Nat.ble (8 + (z_mL cm + 11) + (z_rm cm).locals) (z_rm mr).locals)) (and (Nat.ble (ce + (z_rm cm).cells) (z_rm mr).cells) (Nat.ble (sl + (z_rm cm).slots) (z_rm mr).slots))))
    (z_frc (ce + (z_rm cm).cells) fun ce' => z_frc (sl + (z_rm cm).slots) fun sl' => go z_l0 cm (z_cd cm) 0 (z_en as 0) [] 0 0 env w (fun env' rv w' => match rv with | none => cont env' t ce' sl' w' | some a => cont env' (a :: t) ce' sl' w')) false
noncomputable def z_ins (cls : List vw_C) (zty : List (Nat → FieldType)) (zdv : List (List zAV)) (ms : List zMR) (go : zGo) (re : zEnv → Bool) (lx : zLX) (mr : zMR) (q : Nat) (i : Jvm.ClassFile.Instr) (x1 x2 x3 : Nat) (r : List zEnt) (lo : List (Nat × zAV)) (st : List zAV) (ce sl : Nat) (env : zEnv) (w : List zAE) (k : zK) : Bool :=
  match i with
  | .iconst n => z_frc (z_un (Int32.ofInt n)) fun u => go lx mr r (q + 1) lo (.inl u :: st) ce sl env w k
  | .bipush n => z_frc (z_un (Int8.ofInt n).toInt32) fun u => go lx mr r (q + 2) lo (.inl u :: st) ce sl env w k
  | .sipush n => z_frc (z_un (Int16.ofInt n).toInt32) fun u => go lx mr r (q + 3) lo (.inl u :: st) ce sl env w k
  | .ldc _ => z_frc x1 fun u => go lx mr r (q + 2) lo (.inl u :: st) ce sl env w k
  | .lconst _ => go lx mr r (q + 1) lo (z_lng :: st) ce sl env w k
  | .aconst_null => go lx mr r (q + 1) lo (z_null :: st) ce sl env w k
  | .iload_n j => z_ld z_isI lo j.val fun a => go lx mr r (q + 1) lo (a :: st) ce sl env w k
  | .iload j => z_ld z_isI lo j fun a => go lx mr r (q + 2) lo (a :: st) ce sl env w k
  | .aload_n j => z_ld z_isR lo j.val fun a => go lx mr r (q + 1) lo (a :: st) ce sl env w k
  | .aload j => z_ld z_isR lo j fun a => go lx mr r (q + 2) lo (a :: st) ce sl env w k
  | .istore_n j => z_sto z_isI mr lo j.val st fun lo' t => go lx mr r (q + 1) lo' t ce sl env w k
  | .istore j => z_sto z_isI mr lo j st fun lo' t => go lx mr r (q + 2) lo' t ce sl env w k
  | .astore_n j => z_sto z_isO mr lo j.val st fun lo' t => go lx mr r (q + 1) lo' t ce sl env w k
  | .astore j => z_sto z_isO mr lo j st fun lo' t => go lx mr r (q + 2) lo' t ce sl env w k
  | .iinc j n => z_ld z_isI lo j fun a => z_bin (fun x y => x + y) env a (.inl (z_un (Int32.ofInt n))) fun v => cond (Nat.blt j (z_mL mr)) (z_del lo j fun lo' => go lx mr r (q + 3) ((j, v) :: lo') st ce sl env w k) false
  | .iadd => z_b2 st fun a b t => z_bin (fun x y => x + y) env a b fun v => go lx mr r (q + 1) lo (v :: t) ce sl env w k
  | .isub => z_b2 st fun a b t => z_bin (fun x y => x - y) env a b fun v => go lx mr r (q + 1) lo (v :: t) ce sl env w k
  | .imul => z_b2 st fun a b t => z_bin (fun x y => x * y) env a b fun v => go lx mr r (q + 1) lo (v :: t) ce sl env w k
  | .iand => z_b2 st fun a b t => z_bin (fun x y => x &&& y) env a b fun v => go lx mr r (q + 1) lo (v :: t) ce sl env w k
  | .ior => z_b2 st fun a b t => z_bin (fun x y => x ||| y) env a b fun v => go lx mr r (q + 1) lo (v :: t) ce sl env w k
  | .ishl => z_b2 st fun a b t => z_bin (fun x y => x <<< (y &&& 31)) env a b fun v => go lx mr r (q + 1) lo (v :: t) ce sl env w k
  | .ishr => z_b2 st fun a b t => z_bin (fun x y => x >>> (y &&& 31)) env a b fun v => go lx mr r (q + 1) lo (v :: t) ce sl env w k
  | .iushr => z_b2 st fun a b t => z_bin (fun x y => (x.toUInt32 >>> (y.toUInt32 &&& Int32.toUInt32 31)).toInt32) env a b fun v => go lx mr r (q + 1) lo (v :: t) ce sl env w k
  | .irem => z_b2 st fun a b t => (match z_rs env b with
    | .inl y => cond (Nat.beq (z_bu y) 2147483648) false (z_bin (fun x y => x - x / y * y) env a (.inl y) fun v => go lx mr r (q + 1) lo (v :: t) ce sl env w k)
    | _ => false)
  | .i2b => (match st with
    | a :: t => z_bin (fun x _ => x.toInt8.toInt32) env a (.inl 0) fun v => go lx mr r (q + 1) lo (v :: t) ce sl env w k
    | [] => false)
  | .ifCond c _ => (match st with
    | a :: t => z_br c (z_rs env a) (.inl 0) env re (fun e => go lx mr (z_from (z_cd mr) x1) x1 lo t ce sl e w k) (fun e => go lx mr r (q + 3) lo t ce sl e w k)
    | [] => false)
  | .if_icmp c _ => z_b2 st fun a b t => z_br c (z_rs env a) (z_rs env b) env re (fun e => go lx mr (z_from (z_cd mr) x1) x1 lo t ce sl e w k) (fun e => go lx mr r (q + 3) lo t ce sl e w k)
  | .ifnull _ => (match st with
    | .inr (.inr (.inl none)) :: t => go lx mr (z_from (z_cd mr) x1) x1 lo t ce sl env w k
    | .inr (.inr (.inl (some _))) :: t => go lx mr r (q + 3) lo t ce sl env w k
    | _ => false)
  | .ifnonnull _ => (match st with
    | .inr (.inr (.inl none)) :: t => go lx mr r (q + 3) lo t ce sl env w k
    | .inr (.inr (.inl (some _))) :: t => go lx mr (z_from (z_cd mr) x1) x1 lo t ce sl env w k
    | _ => false)
  | .goto _ => go lx mr (z_from (z_cd mr) x1) x1 lo st ce sl env w k
  | .dup => (match st with
    | a :: t => cond (z_c1 a) (go lx mr r (q + 1) lo (a :: a :: t) ce sl env w k) false
    | [] => false)
  | .tableswitch d l0 h0 offs => (match st with
    | a :: t => (match z_rs env a with
      | .inl u => cond (or (decide ((nI u).toInt < l0)) (decide (h0 < (nI u).toInt)))
          (cond (decide ((q : Int) + d = (x1 : Int))) (go lx mr (z_from (z_cd mr) x1) x1 lo t ce sl env w k) false)
          (match offs[((nI u).toInt - l0).toNat]? with
            | some o => z_frc ((q : Int) + o).toNat fun tg => cond (decide ((q : Int) + o = (tg : Int))) (go lx mr (z_from (z_cd mr) tg) tg lo t ce sl env w k) false
            | none => false)
      | .inr (.inl j) => cond (and (decide ((q : Int) + d = (x1 : Int))) (and (decide ((x2 : Int) = l0 + 2147483648)) (decide ((x3 : Int) = h0 + 2147483649))))
          (z_spl j env x2 (fun e => go lx mr (z_from (z_cd mr) x1) x1 lo t ce sl e w k) (fun e => z_spl j e x3 (fun e => z_con e j re) (fun e => go lx mr (z_from (z_cd mr) x1) x1 lo t ce sl e w k))) false
      | _ => false)
    | [] => false)
  | .lookupswitch d ps => (match st with
    | a :: t => (match z_rs env a with
      | .inl u => z_frc ((q : Int) + Op.lookupswitch.offset ps.toList d (nI u).toInt).toNat fun tg => cond (and (decide ((q : Int) + Op.lookupswitch.offset ps.toList d (nI u).toInt = (tg : Int))) ((ps.toList.zip (ps.toList.drop 1)).all (fun (a, next) => a.1 < next.1))) (go lx mr (z_from (z_cd mr) tg) tg lo t ce sl env w k) false
      | .inr (.inl j) => cond (and (decide ((q : Int) + d = (x1 : Int))) (and ((ps.toList.zip (ps.toList.drop 1)).all (fun (a, next) => a.1 < next.1)) (ps.toList.all (fun p => and (decide ((x2 : Int) ≤ p.1 + 2147483648)) (decide (p.1 + 2147483648 < (x3 : Int)))))))
          (z_spl j env x2 (fun e => go lx mr (z_from (z_cd mr) x1) x1 lo t ce sl e w k) (fun e => z_spl j e x3 (fun e => z_con e j re) (fun e => go lx mr (z_from (z_cd mr) x1) x1 lo t ce sl e w k))) false
      | _ => false)
    | [] => false)
  | .getfield _ => (match st with
    | .inr (.inr (.inl (some a))) :: t => (match w[a]? with
      | some (.inl f) => cond (Nat.beq f.1 x1) (match f.2[x2]? with
        | some v => go lx mr r (q + 3) lo (v :: t) ce sl env w k
        | none => false) false
      | _ => false)
    | _ => false)
  | .putfield _ => (match st with
    | v :: .inr (.inr (.inl (some a))) :: t => (match w[a]? with
      | some (.inl f) => cond (Nat.beq f.1 x1) (match f.2[x2]?, zty[x1]? with
        | some _, some ty => cond (z_fit (ty x2) v) (z_set f.2 x2 v fun fs' => z_set w a (.inl (f.1, fs')) fun w' => go lx mr r (q + 3) lo t ce sl env w' k) false
        | _, _ => false) false
      | _ => false)
    | _ => false)
  | .new _ => (match cls[x1]?, zdv[x1]? with
    | some c, some dv => z_mk mr ce sl c.2.2 w (.inl (x1, dv)) fun a w' ce' sl' => go lx mr r (q + 3) lo (z_rf a :: st) ce' sl' env w' k
    | _, _ => false)
  | .newarray ty => (match st with
    | n :: t => (match z_rs env n, z_akd ty with
      | .inl u, some kd => cond (Nat.ble u 60000000) (z_mk mr ce sl u w (.inr (kd, u, [])) fun a w' ce' sl' => go lx mr r (q + 2) lo (z_rf a :: t) ce' sl' env w' k) false
      | _, _ => false)
    | [] => false)
  | .anewarray _ => (match st with
    | n :: t => (match z_rs env n with
      | .inl u => cond (Nat.ble u 60000000) (z_mk mr ce sl u w (.inr (x1 + 4, u, [])) fun a w' ce' sl' => go lx mr r (q + 3) lo (z_rf a :: t) ce' sl' env w' k) false
      | _ => false)
    | [] => false)
  | .arraylength => (match st with
    | .inr (.inr (.inl (some a))) :: t => (match w[a]? with
      | some (.inr f) => go lx mr r (q + 1) lo (.inl f.2.1 :: t) ce sl env w k
      | _ => false)
    | .inr (.inr (.inr 2)) :: t => (match lx.1 with
      | 0 => false
      | L + 1 => go lx mr r (q + 1) lo (.inl L :: t) ce sl env w k)
    | _ => false)
  | .iaload => (match st with
    | j :: .inr (.inr (.inl (some a))) :: t => (match w[a]? with
      | some (.inr (0, n, pr)) => z_ix env j n re fun u => go lx mr r (q + 1) lo (pr.getD u (.inl 0) :: t) ce sl env w k
      | _ => false)
    | j :: .inr (.inr (.inr 2)) :: t => (match lx.1 with
      | 0 => false
      | L + 1 => z_ix env j L re fun u => go lx mr r (q + 1) lo (z_sy u :: t) ce sl env w k)
    | _ => false)
  | .baload => (match st with
    | j :: .inr (.inr (.inl (some a))) :: t => (match w[a]? with
      | some (.inr (1, n, pr)) => z_ix env j n re fun u => go lx mr r (q + 1) lo (pr.getD u (.inl 0) :: t) ce sl env w k
      | some (.inr (2, n, pr)) => z_ix env j n re fun u => go lx mr r (q + 1) lo (pr.getD u (.inl 0) :: t) ce sl env w k
      | _ => false)
    | _ => false)
  | .aaload => (match st with
    | j :: .inr (.inr (.inl (some a))) :: t => (match w[a]? with
      | some (.inr (_ + 4, n, pr)) => z_ix env j n re fun u => go lx mr r (q + 1) lo (pr.getD u z_null :: t) ce sl env w k
      | _ => false)
    | _ => false)
  | .iastore => (match st with
    | v :: j :: .inr (.inr (.inl (some a))) :: t => (match w[a]? with
      | some (.inr (0, n, pr)) => z_ix env j n re fun u => cond (z_isI v) (z_pst (.inl 0) v pr u fun pr' => z_set w a (.inr (0, n, pr')) fun w' => go lx mr r (q + 1) lo t ce sl env w' k) false
      | _ => false)
    | _ => false)
  | .bastore => (match st with
    | v :: j :: .inr (.inr (.inl (some a))) :: t => (match w[a]? with
      | some (.inr (1, n, pr)) => z_ix env j n re fun u => cond (z_isI v) (z_pst (.inl 0) z_any pr u fun pr' => z_set w a (.inr (1, n, pr')) fun w' => go lx mr r (q + 1) lo t ce sl env w' k) false
      | some (.inr (2, n, pr)) => z_ix env j n re fun u => cond (z_isB v) (z_pst (.inl 0) v pr u fun pr' => z_set w a (.inr (2, n, pr')) fun w' => go lx mr r (q + 1) lo t ce sl env w' k) false
      | _ => false)
    | _ => false)
  | .aastore => (match st with
    | .inr (.inr (.inl (some b))) :: j :: .inr (.inr (.inl (some a))) :: t => (match w[a]?, w[b]? with
      | some (.inr (kd + 4, n, pr)), some (.inl f) => z_ix env j n re fun u => cond (Nat.beq f.1 kd) (z_pst z_null (z_rf b) pr u fun pr' => z_set w a (.inr (kd + 4, n, pr')) fun w' => go lx mr r (q + 1) lo t ce sl env w' k) false
      | _, _ => false)
    | _ => false)
  | .invokevirtual _ => z_pop (x2 % 100) [] st fun as t => (match t with
    | .inr (.inr (.inl (some a))) :: t => (match ms[x1]?, w[a]? with
      | some cm, some (.inl f) => cond (Nat.beq f.1 (z_ci cm)) (z_call go mr cm (z_rf a :: as) t ce sl env w fun env' t' ce' sl' w' => go lx mr r (q + 3) lo t' ce' sl' env' w' k) false
      | _, _ => false)
    | _ => false)
  | .invokestatic _ => z_pop (x2 % 100) [] st fun as t => (match ms[x1]? with
    | some cm => z_call go mr cm as t ce sl env w fun env' t' ce' sl' w' => go lx mr r (q + 3) lo t' ce' sl' env' w' k
    | none => false)
  | .invokespecial _ => cond (Nat.beq x2 50) (match st with
      | .inr (.inr (.inl (some _))) :: t => cond (and (and (z_all z_c1 t) (Nat.ble (z_len t) 8)) (and (Nat.ble 1 (z_rm mr).frames) (Nat.ble 20 (z_rm mr).locals))) (go lx mr r (q + 3) lo t ce sl env w k) false
      | _ => false)
    (z_pop (x2 % 100) [] st fun as t => (match t with
      | .inr (.inr (.inl (some a))) :: t => (match ms[x1]? with
        | some cm => z_call go mr cm (z_rf a :: as) t ce sl env w fun env' t' ce' sl' w' => go lx mr r (q + 3) lo t' ce' sl' env' w' k
        | none => false)
      | _ => false))
  | .ireturn => (match st with
    | [a] => (match z_rt mr with
      | some .int => cond (z_isI a) (k env (some a) w) false
      | some .boolean => cond (z_isB a) (k env (some a) w) false
      | _ => false)
    | _ => false)
  | .areturn => (match st with
    | [a] => (match z_rt mr with
      | some (.object _) => cond (z_isO a) (k env (some a) w) false
      | some (.array _) => cond (z_isO a) (k env (some a) w) false
      | _ => false)
    | _ => false)
  | .return_ => (match st with
    | [] => (match z_rt mr with
      | none => k env none w
      | _ => false)
    | _ => false)
  | _ => false
noncomputable def z_step (cls : List vw_C) (zty : List (Nat → FieldType)) (zdv : List (List zAV)) (ms : List zMR) (go : zGo) : zGo := fun lx mr cd pc lo st ce sl env w k => match cd with
  | [] => lx.2 pc lo st ce sl env w
  | e :: r => cond (Nat.beq e.1 pc) (z_ins cls zty zdv ms go (fun env' => go lx mr (e :: r) pc lo st ce sl env' w k) lx mr e.1 e.2.1 e.2.2.1 e.2.2.2.1 e.2.2.2.2 r lo st ce sl env w k) false
noncomputable def z_ev (cls : List vw_C) (zty : List (Nat → FieldType)) (zdv : List (List zAV)) (ms : List zMR) (n : Nat) : zGo :=
  Nat.rec (motive := fun _ => zGo) (fun _ _ _ _ _ _ _ _ _ _ _ => false) (fun _ go => z_step cls zty zdv ms go) n
end
section
theorem z_nb (a b : Nat) : Nat.beq a b = true ↔ a = b := ⟨Nat.eq_of_beq_eq_true, fun h => by subst h; exact Nat.beq_refl a⟩
theorem z_nbe (a b : Nat) : (a == b) = Nat.beq a b := by
  rw [Bool.eq_iff_iff, z_nb]
  simp
theorem z_nI_un (x : Int32) : nI (z_un x) = x := by
  apply Int32.toBitVec_inj.mp
  show BitVec.ofNat 32 x.toBitVec.toNat = x.toBitVec
  simp
def z_b (x : Int32) : Nat := (x.toBitVec.toNat + 2147483648) % 4294967296
theorem z_b_int (x : Int32) : (z_b x : Int) = x.toInt + 2147483648 := by
  have h1 : x.toInt = x.toBitVec.toInt := rfl
  have h2 := x.toBitVec.isLt
  rw [h1, BitVec.toInt_eq_toNat_cond]
  unfold z_b
  split <;> omega
theorem z_b_nI (u : Nat) : z_b (nI u) = z_bu u := by
  have h : (nI u).toBitVec.toNat = u % 2 ^ 32 := by
    show (BitVec.ofNat 32 u).toNat = _
    exact BitVec.toNat_ofNat u 32
  unfold z_b z_bu
  rw [h]
  omega
theorem z_bu_b (x : Int32) : nI (z_bu (z_b x)) = x := by
  have h : z_bu (z_b x) = z_un x := by
    have h2 := x.toBitVec.isLt
    unfold z_bu z_b z_un
    omega
  rw [h, z_nI_un]
theorem z_blt (x y : Int32) : x < y ↔ z_b x < z_b y := by
  have h1 := z_b_int x
  have h2 := z_b_int y
  rw [Int32.lt_iff_toInt_lt]
  omega
theorem z_ble (x y : Int32) : x ≤ y ↔ z_b x ≤ z_b y := by
  have h1 := z_b_int x
  have h2 := z_b_int y
  rw [Int32.le_iff_toInt_le]
  omega
theorem z_beq (x y : Int32) : x = y ↔ z_b x = z_b y := by
  have h1 := z_b_int x
  have h2 := z_b_int y
  rw [← Int32.toInt_inj]
  omega
def z_hold (c : Jvm.ClassFile.Cond) (x y : Int32) : Prop := match c with
  | .eq => x = y
  | .ne => ¬ x = y
  | .lt => x < y
  | .ge => y ≤ x
  | .gt => y < x
  | .le => x ≤ y
theorem z_cmp_ok (c : Jvm.ClassFile.Cond) (x y : Int32) : z_cmp c (z_b x) (z_b y) = true ↔ z_hold c x y := by
  have h := z_beq x y
  have h1 := z_blt x y
  have h2 := z_blt y x
  have h3 := z_ble x y
  have h4 := z_ble y x
  cases c
  · show Nat.beq _ _ = true ↔ _
    rw [z_nb]; exact h.symm
  · have e : z_cmp .ne (z_b x) (z_b y) = !(Nat.beq (z_b x) (z_b y)) := rfl
    rw [e, Bool.not_eq_true', ← Bool.not_eq_true, z_nb]; exact not_congr h.symm
  · show Nat.ble (_ + 1) _ = true ↔ _
    rw [Nat.ble_eq]; exact h1.symm
  · show Nat.ble _ _ = true ↔ _
    rw [Nat.ble_eq]; exact h4.symm
  · show Nat.ble (_ + 1) _ = true ↔ _
    rw [Nat.ble_eq]; exact h2.symm
  · show Nat.ble _ _ = true ↔ _
    rw [Nat.ble_eq]; exact h3.symm
def z_erel (sg : Nat → Int32) (env : zEnv) : Prop := ∀ (i : Nat) (q : Nat × Nat), env[i]? = some q → q.1 ≤ z_b (sg i) ∧ z_b (sg i) ≤ q.2
theorem z_erel_set {sg : Nat → Int32} {env : zEnv} {i lo hi : Nat} (h : z_erel sg env) (h1 : lo ≤ z_b (sg i)) (h2 : z_b (sg i) ≤ hi) : z_erel sg (env.set i (lo, hi)) := by
  intro j q hq
  by_cases hj : i = j
  · subst hj
    by_cases hl : i < env.length
    · rw [List.getElem?_set_self hl] at hq
      cases hq
      exact ⟨h1, h2⟩
    · rw [List.getElem?_eq_none (by rw [List.length_set]; omega)] at hq
      cases hq
  · rw [List.getElem?_set_ne hj] at hq
    exact h j q hq
theorem z_spl_ok {sg : Nat → Int32} {env : zEnv} {i t : Nat} {L G : zEnv → Bool} (h : z_spl i env t L G = true) (he : z_erel sg env) : (z_b (sg i) < t → ∃ e, z_erel sg e ∧ L e = true) ∧ (¬ z_b (sg i) < t → ∃ e, z_erel sg e ∧ G e = true) := by
  unfold z_spl at h
  cases hq : env[i]? with
  | none => rw [hq] at h; cases h
  | some q =>
    rw [hq] at h
    dsimp only at h
    obtain ⟨a, b⟩ := he i q hq
    rw [Bool.and_eq_true] at h
    refine ⟨fun hx => ?_, fun hx => ?_⟩
    · have h1 := h.1
      rw [show Nat.blt q.1 t = true from by unfold Nat.blt; rw [Nat.ble_eq]; omega, cond_true, z_set_eq] at h1
      exact ⟨_, z_erel_set he a (by show _ ≤ min _ _; omega), h1⟩
    · have h1 := h.2
      rw [show Nat.ble t q.2 = true from by rw [Nat.ble_eq]; omega, cond_true, z_set_eq] at h1
      exact ⟨_, z_erel_set he (by show max _ _ ≤ _; omega) b, h1⟩
theorem z_brS_ok {sg : Nat → Int32} {env : zEnv} {i : Nat} {c : Jvm.ClassFile.Cond} {y : Int32} {T F : zEnv → Bool} (h : z_brS c i (z_b y) env T F = true) (he : z_erel sg env) : (z_hold c (sg i) y → ∃ e, z_erel sg e ∧ T e = true) ∧ (¬ z_hold c (sg i) y → ∃ e, z_erel sg e ∧ F e = true) := by
  have g0 := z_beq (sg i) y
  have g1 := z_blt (sg i) y
  have g2 := z_blt y (sg i)
  have g3 := z_ble (sg i) y
  have g4 := z_ble y (sg i)
  cases c
  · have h1 := z_spl_ok (sg := sg) h he
    refine ⟨fun q => ?_, fun q => ?_⟩
    · have q : sg i = y := q
      obtain ⟨e, e1, e2⟩ := h1.2 (by have := g0.mp q; omega)
      exact (z_spl_ok e2 e1).1 (by have := g0.mp q; omega)
    · have q : ¬ sg i = y := q
      by_cases hb : z_b (sg i) < z_b y
      · exact h1.1 hb
      · obtain ⟨e, e1, e2⟩ := h1.2 hb
        exact (z_spl_ok e2 e1).2 (by have := mt g0.mpr q; omega)
  · have h1 := z_spl_ok (sg := sg) h he
    refine ⟨fun q => ?_, fun q => ?_⟩
    · have q : ¬ sg i = y := q
      by_cases hb : z_b (sg i) < z_b y
      · exact h1.1 hb
      · obtain ⟨e, e1, e2⟩ := h1.2 hb
        exact (z_spl_ok e2 e1).2 (by have := mt g0.mpr q; omega)
    · have q : sg i = y := Classical.not_not.mp q
      obtain ⟨e, e1, e2⟩ := h1.2 (by have := g0.mp q; omega)
      exact (z_spl_ok e2 e1).1 (by have := g0.mp q; omega)
  · have h1 := z_spl_ok (sg := sg) h he
    exact ⟨fun q => h1.1 (g1.mp q), fun q => h1.2 (mt g1.mpr q)⟩
  · have h1 := z_spl_ok (sg := sg) h he
    exact ⟨fun q => h1.2 (by have := g4.mp q; omega), fun q => h1.1 (by have := mt g4.mpr q; omega)⟩
  · have h1 := z_spl_ok (sg := sg) h he
    exact ⟨fun q => h1.2 (by have := g2.mp q; omega), fun q => h1.1 (by have := mt g2.mpr q; omega)⟩
  · have h1 := z_spl_ok (sg := sg) h he
    exact ⟨fun q => h1.1 (by have := g3.mp q; omega), fun q => h1.2 (by have := mt g3.mpr q; omega)⟩
theorem z_alR_ok {lo n : Nat} {f : Nat → Bool} (h : z_alR lo n f = true) : ∀ j, j < n → f (lo + j) = true := by
  induction n with
  | zero => intro j hj; omega
  | succ n ih =>
    have h : and (f (lo + n)) (z_alR lo n f) = true := h
    rw [Bool.and_eq_true] at h
    intro j hj
    by_cases hjn : j = n
    · subst hjn; exact h.1
    · exact ih h.2 j (by omega)
theorem z_con_ok {sg : Nat → Int32} {env : zEnv} {i : Nat} {re : zEnv → Bool} (h : z_con env i re = true) (he : z_erel sg env) : ∃ e, z_erel sg e ∧ re e = true := by
  unfold z_con at h
  cases hq : env[i]? with
  | none => rw [hq] at h; cases h
  | some q =>
    rw [hq] at h
    dsimp only at h
    obtain ⟨a, b⟩ := he i q hq
    cases hc : Nat.ble (q.2 - q.1) 64 with
    | false => rw [hc] at h; cases h
    | true =>
      rw [hc, cond_true] at h
      have h1 := z_alR_ok h (z_b (sg i) - q.1) (by omega)
      rw [z_frc_eq, z_set_eq] at h1
      exact ⟨_, z_erel_set he (by omega) (by omega), h1⟩
/-- what a value stands for -/
def z_g (sg : Nat → Int32) (ad : List Nat) (b : Nat) : zAV → Value → Prop
  | .inl u, v => v = .int (nI u)
  | .inr (.inl i), v => v = .int (sg i)
  | .inr (.inr (.inl none)), v => v = .null
  | .inr (.inr (.inl (some k))), v => ∃ a, ad[k]? = some a ∧ v = .ref a
  | .inr (.inr (.inr 0)), v => ∃ x, v = .int x
  | .inr (.inr (.inr 1)), v => ∃ x, v = .long x
  | .inr (.inr (.inr _)), v => v = .ref b
def z_le (ad ad' : List Nat) : Prop := ∀ (k a : Nat), ad[k]? = some a → ad'[k]? = some a
theorem z_g_mono {sg : Nat → Int32} {ad ad' : List Nat} {b : Nat} (h : z_le ad ad') {a : zAV} {v : Value} (hg : z_g sg ad b a v) : z_g sg ad' b a v := by
  match a, hg with
  | .inl _, hg => exact hg
  | .inr (.inl _), hg => exact hg
  | .inr (.inr (.inl none)), hg => exact hg
  | .inr (.inr (.inl (some k))), hg =>
    obtain ⟨q, h1, h2⟩ := hg
    exact ⟨q, h k q h1, h2⟩
  | .inr (.inr (.inr 0)), hg => exact hg
  | .inr (.inr (.inr 1)), hg => exact hg
  | .inr (.inr (.inr (_ + 2))), hg => exact hg
theorem z_isI_ok {sg : Nat → Int32} {ad : List Nat} {b : Nat} {a : zAV} {v : Value} (h : z_isI a = true) (hg : z_g sg ad b a v) : ∃ x, v = .int x := by
  match a, h, hg with
  | .inl _, _, hg => exact ⟨_, hg⟩
  | .inr (.inl _), _, hg => exact ⟨_, hg⟩
  | .inr (.inr (.inl _)), h, _ => cases h
  | .inr (.inr (.inr 0)), _, hg => exact hg
  | .inr (.inr (.inr (_ + 1))), h, _ => cases h
theorem z_isR_ok {sg : Nat → Int32} {ad : List Nat} {b : Nat} {a : zAV} {v : Value} (h : z_isR a = true) (hg : z_g sg ad b a v) : v = .null ∨ ∃ q, v = .ref q := by
  match a, h, hg with
  | .inl _, h, _ => cases h
  | .inr (.inl _), h, _ => cases h
  | .inr (.inr (.inl none)), _, hg => exact Or.inl hg
  | .inr (.inr (.inl (some _))), _, hg =>
    obtain ⟨q, _, h2⟩ := hg
    exact Or.inr ⟨q, h2⟩
  | .inr (.inr (.inr 0)), h, _ => cases h
  | .inr (.inr (.inr 1)), h, _ => cases h
  | .inr (.inr (.inr (_ + 2))), _, hg => exact Or.inr ⟨b, hg⟩
theorem z_isO_ok {sg : Nat → Int32} {ad : List Nat} {b : Nat} {a : zAV} {v : Value} (h : z_isO a = true) (hg : z_g sg ad b a v) : v = .null ∨ ∃ q, v = .ref q := by
  match a, h, hg with
  | .inl _, h, _ => cases h
  | .inr (.inl _), h, _ => cases h
  | .inr (.inr (.inl none)), _, hg => exact Or.inl hg
  | .inr (.inr (.inl (some _))), _, hg =>
    obtain ⟨q, _, h2⟩ := hg
    exact Or.inr ⟨q, h2⟩
  | .inr (.inr (.inr _)), h, _ => cases h
theorem z_isB_ok {sg : Nat → Int32} {ad : List Nat} {b : Nat} {a : zAV} {v : Value} (h : z_isB a = true) (hg : z_g sg ad b a v) : v = .int 0 ∨ v = .int 1 := by
  match a, h, hg with
  | .inl 0, _, hg => exact Or.inl hg
  | .inl 1, _, hg => exact Or.inr hg
  | .inl (_ + 2), h, _ => cases h
  | .inr _, h, _ => cases h
theorem z_c1_ok {sg : Nat → Int32} {ad : List Nat} {b : Nat} {a : zAV} {v : Value} (h : z_c1 a = true) (hg : z_g sg ad b a v) : v.category = 1 := by
  match a, h, hg with
  | .inl _, _, hg => rw [hg]; rfl
  | .inr (.inl _), _, hg => rw [hg]; rfl
  | .inr (.inr (.inl none)), _, hg => rw [hg]; rfl
  | .inr (.inr (.inl (some _))), _, hg =>
    obtain ⟨q, _, h2⟩ := hg
    rw [h2]; rfl
  | .inr (.inr (.inr 0)), _, hg =>
    obtain ⟨q, h2⟩ := hg
    rw [h2]; rfl
  | .inr (.inr (.inr 1)), h, _ => cases h
  | .inr (.inr (.inr (_ + 2))), _, hg => rw [hg]; rfl
theorem z_fit_ok {sg : Nat → Int32} {ad : List Nat} {b : Nat} {a : zAV} {v : Value} {ty : FieldType} (h : z_fit ty a = true) (hg : z_g sg ad b a v) : narrow ty v = v ∧ fits ty v = true := by
  cases ty with
  | int => obtain ⟨x, rfl⟩ := z_isI_ok h hg; exact ⟨rfl, rfl⟩
  | boolean => rcases z_isB_ok h hg with rfl | rfl <;> exact ⟨by decide, by decide⟩
  | long =>
    match a, h, hg with
    | .inl _, h, _ => cases h
    | .inr (.inl _), h, _ => cases h
    | .inr (.inr (.inl _)), h, _ => cases h
    | .inr (.inr (.inr 0)), h, _ => cases h
    | .inr (.inr (.inr 1)), _, hg =>
      obtain ⟨x, rfl⟩ := hg
      exact ⟨rfl, rfl⟩
    | .inr (.inr (.inr (_ + 2))), h, _ => cases h
  | object n => rcases z_isO_ok h hg with rfl | ⟨q, rfl⟩ <;> exact ⟨rfl, rfl⟩
  | array n => rcases z_isO_ok h hg with rfl | ⟨q, rfl⟩ <;> exact ⟨rfl, rfl⟩
  | _ => cases h
theorem z_rs_ok {sg : Nat → Int32} {ad : List Nat} {b : Nat} {env : zEnv} (he : z_erel sg env) {a : zAV} {v : Value} (hg : z_g sg ad b a v) : z_g sg ad b (z_rs env a) v := by
  match a, hg with
  | .inl _, hg => exact hg
  | .inr (.inr _), hg => exact hg
  | .inr (.inl i), hg =>
    unfold z_rs
    dsimp only
    cases hq : env[i]? with
    | none => exact hg
    | some q =>
      dsimp only
      cases hb : Nat.beq q.1 q.2 with
      | false => exact hg
      | true =>
        have h1 := Nat.eq_of_beq_eq_true hb
        obtain ⟨h2, h3⟩ := he i q hq
        have h4 : q.1 = z_b (sg i) := by omega
        have hg : v = .int (sg i) := hg
        show v = .int (nI (z_bu q.1))
        rw [h4, z_bu_b]
        exact hg
theorem z_br_ok {sg : Nat → Int32} {ad : List Nat} {bb : Nat} {env : zEnv} {c : Jvm.ClassFile.Cond} {a b : zAV} {x y : Int32} {re T F : zEnv → Bool} (h : z_br c a b env re T F = true) (he : z_erel sg env) (ha : z_g sg ad bb a (.int x)) (hb : z_g sg ad bb b (.int y)) :
    ((z_hold c x y → ∃ e, z_erel sg e ∧ T e = true) ∧ (¬ z_hold c x y → ∃ e, z_erel sg e ∧ F e = true)) ∨ ∃ e, z_erel sg e ∧ re e = true := by
  match a, b, h, ha, hb with
  | .inl u, .inl v, h, ha, hb =>
    have ha : Value.int x = .int (nI u) := ha
    have hb : Value.int y = .int (nI v) := hb
    cases ha; cases hb
    have h : cond (z_cmp c (z_bu u) (z_bu v)) (T env) (F env) = true := h
    rw [← z_b_nI u, ← z_b_nI v] at h
    have hk := z_cmp_ok c (nI u) (nI v)
    cases hc : z_cmp c (z_b (nI u)) (z_b (nI v)) with
    | true =>
      rw [hc] at h hk
      exact Or.inl ⟨fun _ => ⟨env, he, h⟩, fun n => absurd (hk.mp rfl) n⟩
    | false =>
      rw [hc] at h hk
      exact Or.inl ⟨fun n => absurd (hk.mpr n) (by decide), fun _ => ⟨env, he, h⟩⟩
  | .inr (.inl i), .inl v, h, ha, hb =>
    have ha : Value.int x = .int (sg i) := ha
    have hb : Value.int y = .int (nI v) := hb
    cases ha; cases hb
    have h : z_brS c i (z_bu v) env T F = true := h
    rw [← z_b_nI v] at h
    exact Or.inl (z_brS_ok h he)
  | .inl u, .inr (.inl i), h, ha, hb =>
    have ha : Value.int x = .int (nI u) := ha
    have hb : Value.int y = .int (sg i) := hb
    cases ha; cases hb
    have h : z_brS (z_flip c) i (z_bu u) env T F = true := h
    rw [← z_b_nI u] at h
    have h2 := z_brS_ok (sg := sg) h he
    refine Or.inl ?_
    cases c
    · exact ⟨fun q => h2.1 (Eq.symm q), fun q => h2.2 (fun z => q (Eq.symm z))⟩
    · exact ⟨fun q => h2.1 (fun z => q (Eq.symm z)), fun q => h2.2 (fun z => q (fun w => z (Eq.symm w)))⟩
    · exact h2
    · exact h2
    · exact h2
    · exact h2
  | .inr (.inl i), .inr (.inl _), h, _, _ => exact Or.inr (z_con_ok h he)
  | .inr (.inr _), _, h, _, _ => cases h
  | .inl _, .inr (.inr _), h, _, _ => cases h
  | .inr (.inl _), .inr (.inr _), h, _, _ => cases h
theorem z_ix_ok {sg : Nat → Int32} {ad : List Nat} {bb : Nat} {env : zEnv} {a : zAV} {n : Nat} {v : Value} {re : zEnv → Bool} {k : Nat → Bool} (h : z_ix env a n re k = true) (he : z_erel sg env) (hg : z_g sg ad bb a v) :
    (∃ u, v = .int (nI u) ∧ vp_in (nI u) n ∧ (nI u).toNatClampNeg = u ∧ k u = true) ∨ ∃ e, z_erel sg e ∧ re e = true := by
  have h2 := z_rs_ok he hg
  unfold z_ix at h
  match z_rs env a, h, h2 with
  | .inl u, h, h2 =>
    have h : cond (and (Nat.blt u n) (Nat.ble n 2147483647)) (k u) false = true := h
    cases hc : and (Nat.blt u n) (Nat.ble n 2147483647) with
    | false => rw [hc] at h; cases h
    | true =>
      rw [hc] at h
      rw [Bool.and_eq_true] at hc
      have c1 : u + 1 ≤ n := Nat.le_of_ble_eq_true hc.1
      have c2 : n ≤ 2147483647 := Nat.le_of_ble_eq_true hc.2
      exact Or.inl ⟨u, h2, vp_in_nI (by omega) (by omega), nI_clamp (by omega), h⟩
  | .inr (.inl i), h, _ => exact Or.inr (z_con_ok h he)
  | .inr (.inr _), h, _ => cases h
theorem z_bin_ok {sg : Nat → Int32} {ad : List Nat} {bb : Nat} {env : zEnv} {f : Int32 → Int32 → Int32} {a b : zAV} {v1 v2 : Value} {k : zAV → Bool} (h : z_bin f env a b k = true) (he : z_erel sg env) (ha : z_g sg ad bb a v1) (hb : z_g sg ad bb b v2) :
    ∃ x y c, v1 = .int x ∧ v2 = .int y ∧ z_g sg ad bb c (.int (f x y)) ∧ k c = true := by
  have h1 := z_rs_ok he ha
  have h2 := z_rs_ok he hb
  unfold z_bin at h
  have key : ∀ a' b' : zAV, z_g sg ad bb a' v1 → z_g sg ad bb b' v2 → and (and (z_isI a') (z_isI b')) (k z_any) = true → ∃ x y c, v1 = .int x ∧ v2 = .int y ∧ z_g sg ad bb c (.int (f x y)) ∧ k c = true := by
    intro a' b' g1 g2 hh
    rw [Bool.and_eq_true, Bool.and_eq_true] at hh
    obtain ⟨x, hx⟩ := z_isI_ok hh.1.1 g1
    obtain ⟨y, hy⟩ := z_isI_ok hh.1.2 g2
    exact ⟨x, y, z_any, hx, hy, ⟨_, rfl⟩, hh.2⟩
  match z_rs env a, z_rs env b, h, h1, h2 with
  | .inl x, .inl y, h, h1, h2 =>
    have h : z_frc (z_un (f (nI x) (nI y))) (fun u => k (.inl u)) = true := h
    rw [z_frc_eq] at h
    exact ⟨nI x, nI y, _, h1, h2, by show Value.int _ = .int _; rw [z_nI_un], h⟩
  | .inl x, .inr y, h, h1, h2 => exact key _ _ h1 h2 h
  | .inr x, .inl y, h, h1, h2 => exact key _ _ h1 h2 h
  | .inr x, .inr y, h, h1, h2 => exact key _ _ h1 h2 h
-- stacks, places, cells
def z_SR (g : zAV → Value → Prop) : List zAV → List Value → Prop
  | [], [] => True
  | a :: as, v :: vs => g a v ∧ z_SR g as vs
  | _, _ => False
def z_LR (g : zAV → Value → Prop) : List (Nat × zAV) → List (Nat × Value) → Prop
  | [], [] => True
  | q :: qs, r :: rs => (q.1 = r.1 ∧ g q.2 r.2 ∧ r.2.category = 1) ∧ z_LR g qs rs
  | _, _ => False
theorem z_SR_mono {g g' : zAV → Value → Prop} (h : ∀ a v, g a v → g' a v) : ∀ {as : List zAV} {vs : List Value}, z_SR g as vs → z_SR g' as vs
  | [], [], _ => trivial
  | _ :: _, _ :: _, hs => ⟨h _ _ hs.1, z_SR_mono h hs.2⟩
  | [], _ :: _, hs => hs.elim
  | _ :: _, [], hs => hs.elim
theorem z_LR_mono {g g' : zAV → Value → Prop} (h : ∀ a v, g a v → g' a v) : ∀ {as : List (Nat × zAV)} {vs : List (Nat × Value)}, z_LR g as vs → z_LR g' as vs
  | [], [], _ => trivial
  | _ :: _, _ :: _, hs => ⟨⟨hs.1.1, h _ _ hs.1.2.1, hs.1.2.2⟩, z_LR_mono h hs.2⟩
  | [], _ :: _, hs => hs.elim
  | _ :: _, [], hs => hs.elim
theorem z_SR_len {g : zAV → Value → Prop} : ∀ {as : List zAV} {vs : List Value}, z_SR g as vs → as.length = vs.length
  | [], [], _ => rfl
  | _ :: _, _ :: _, hs => by simp [z_SR_len hs.2]
  | [], _ :: _, hs => hs.elim
  | _ :: _, [], hs => hs.elim
theorem z_SR_get {g : zAV → Value → Prop} : ∀ {as : List zAV} {vs : List Value} {k : Nat} {a : zAV}, z_SR g as vs → as[k]? = some a → ∃ v, vs[k]? = some v ∧ g a v
  | [], [], k, _, _, h => by simp at h
  | _ :: _, _ :: _, 0, _, hs, h => by simp at h; subst h; exact ⟨_, rfl, hs.1⟩
  | _ :: as, _ :: vs, k + 1, _, hs, h => by simpa using z_SR_get (as := as) (vs := vs) (k := k) hs.2 (by simpa using h)
  | [], _ :: _, _, _, hs, _ => hs.elim
  | _ :: _, [], _, _, hs, _ => hs.elim
theorem z_SR_set {g : zAV → Value → Prop} {a : zAV} {v : Value} (hg : g a v) : ∀ {as : List zAV} {vs : List Value} (k : Nat), z_SR g as vs → z_SR g (as.set k a) (vs.set k v)
  | [], [], _, hs => hs
  | _ :: _, _ :: _, 0, hs => ⟨hg, hs.2⟩
  | _ :: _, _ :: _, k + 1, hs => ⟨hs.1, z_SR_set hg k hs.2⟩
  | [], _ :: _, _, hs => hs.elim
  | _ :: _, [], _, hs => hs.elim
theorem z_SR_split {g : zAV → Value → Prop} : ∀ {xs t : List zAV} {vs : List Value}, z_SR g (xs ++ t) vs → ∃ cx ct, vs = cx ++ ct ∧ z_SR g xs cx ∧ z_SR g t ct
  | [], t, vs, h => ⟨[], vs, rfl, trivial, h⟩
  | _ :: xs, t, v :: vs, h => by
    obtain ⟨cx, ct, h1, h2, h3⟩ := z_SR_split (xs := xs) (t := t) h.2
    exact ⟨v :: cx, ct, by rw [h1]; rfl, ⟨h.1, h2⟩, h3⟩
  | _ :: _, _, [], h => h.elim
theorem z_SR_app {g : zAV → Value → Prop} : ∀ {xs t : List zAV} {cx ct : List Value}, z_SR g xs cx → z_SR g t ct → z_SR g (xs ++ t) (cx ++ ct)
  | [], _, [], _, _, h => h
  | _ :: _, _, _ :: _, _, h, h2 => ⟨h.1, z_SR_app h.2 h2⟩
  | [], _, _ :: _, _, h, _ => h.elim
  | _ :: _, _, [], _, h, _ => h.elim
theorem z_SR_rev {g : zAV → Value → Prop} : ∀ {xs : List zAV} {cx : List Value}, z_SR g xs cx → z_SR g xs.reverse cx.reverse
  | [], [], h => h
  | _ :: _, _ :: _, h => by
    rw [List.reverse_cons, List.reverse_cons]
    exact z_SR_app (z_SR_rev h.2) ⟨h.1, trivial⟩
  | [], _ :: _, h => h.elim
  | _ :: _, [], h => h.elim
theorem z_all_cons {f : zAV → Bool} {a : zAV} {l : List zAV} (h : z_all f (a :: l) = true) : f a = true ∧ z_all f l = true := by
  have h : and (f a) (z_all f l) = true := h
  rwa [Bool.and_eq_true] at h
theorem z_SR_cat {g : zAV → Value → Prop} (hg : ∀ a v, z_c1 a = true → g a v → v.category = 1) : ∀ {as : List zAV} {vs : List Value}, z_all z_c1 as = true → z_SR g as vs → (vs.map fun v => v.category).sum = vs.length
  | [], [], _, _ => rfl
  | _ :: _, _ :: vs, h, hs => by
    obtain ⟨h1, h2⟩ := z_all_cons h
    have := z_SR_cat hg h2 hs.2
    simp [hg _ _ h1 hs.1, this]
    omega
  | [], _ :: _, _, hs => hs.elim
  | _ :: _, [], _, hs => hs.elim
theorem z_pop_ok {n : Nat} : ∀ {acc st : List zAV} {k : List zAV → List zAV → Bool}, z_pop n acc st k = true → ∃ xs t, xs.length = n ∧ st = xs ++ t ∧ k (xs.reverse ++ acc) t = true := by
  induction n with
  | zero => intro acc st k h; exact ⟨[], st, rfl, rfl, h⟩
  | succ n ih =>
    intro acc st k h
    cases st with
    | nil => cases h
    | cons a t =>
      have h : z_pop n (a :: acc) t k = true := h
      obtain ⟨xs, t', h1, h2, h3⟩ := ih h
      exact ⟨a :: xs, t', by simp [h1], by rw [h2]; rfl, by simpa using h3⟩
theorem z_LR_lk {g : zAV → Value → Prop} {i : Nat} {a : zAV} : ∀ {lo : List (Nat × zAV)} {lv : List (Nat × Value)}, z_LR g lo lv → z_lk lo i = some a → ∃ (k : Nat) (v : Value), lv[k]? = some (i, v) ∧ g a v ∧ v.category = 1
  | [], [], _, h => by cases h
  | q :: qs, r :: rs, hs, h => by
    have h : cond (Nat.beq q.1 i) (some q.2) (z_lk qs i) = some a := h
    cases hb : Nat.beq q.1 i with
    | true =>
      rw [hb] at h
      cases h
      have := Nat.eq_of_beq_eq_true hb
      refine ⟨0, r.2, ?_, hs.1.2⟩
      show some r = _
      rw [← this, hs.1.1]
    | false =>
      rw [hb] at h
      obtain ⟨k, v, h1, h2⟩ := z_LR_lk hs.2 h
      exact ⟨k + 1, v, by simpa using h1, h2⟩
  | [], _ :: _, hs, _ => hs.elim
  | _ :: _, [], hs, _ => hs.elim
theorem z_LR_del {g : zAV → Value → Prop} (i : Nat) : ∀ {lo : List (Nat × zAV)} {lv : List (Nat × Value)}, z_LR g lo lv → z_LR g (lo.filter (fun q => !(Nat.beq q.1 i))) (lv.filter (fun q => !(q.1 == i) && !(q.1 + 1 == i && q.2.category == 2)))
  | [], [], _ => trivial
  | q :: qs, r :: rs, hs => by
    have h1 := z_LR_del i hs.2
    have hc : (!(r.1 == i) && !(r.1 + 1 == i && r.2.category == 2)) = !(Nat.beq q.1 i) := by
      rw [hs.1.2.2, hs.1.1]
      simp [z_nbe]
      exact fun _ => Or.inr rfl
    rw [List.filter_cons, List.filter_cons, hc]
    cases hb : Nat.beq q.1 i
    · exact ⟨hs.1, h1⟩
    · exact h1
  | [], _ :: _, hs => hs.elim
  | _ :: _, [], hs => hs.elim
theorem z_en_ok {g : zAV → Value → Prop} (hg : ∀ a v, z_arg a = true → g a v → v.category = 1) : ∀ {as : List zAV} {vs : List Value} (i : Nat), z_all z_arg as = true → z_SR g as vs → z_LR g (z_en as i) (lv_args i vs) ∧ (lg_sl vs).length = vs.length
  | [], [], _, _, _ => ⟨trivial, rfl⟩
  | a :: as, v :: vs, i, h, hs => by
    obtain ⟨h1, h2⟩ := z_all_cons h
    have hc := hg _ _ h1 hs.1
    have ih := z_en_ok hg (i + 1) h2 hs.2
    have e : lv_args i (v :: vs) = (i, v) :: lv_args (i + 1) vs := by
      show (i, v) :: lv_args (if v.category = 2 then i + 2 else i + 1) vs = _
      rw [if_neg (by omega)]
    rw [e]
    refine ⟨⟨⟨rfl, hs.1, hc⟩, ih.1⟩, ?_⟩
    have e2 : lg_sl (v :: vs) = .val v :: lg_sl vs := by
      unfold lg_sl
      rw [List.flatMap_cons, if_neg (by omega)]
      rfl
    rw [e2]
    simp [ih.2]
  | [], _ :: _, _, _, hs => hs.elim
  | _ :: _, [], _, _, hs => hs.elim
end
section
-- worlds
def z_cn (cls : List vw_C) (n : Nat) : String := match cls[n]? with
  | some q => q.1
  | none => ""
def z_kty (cls : List vw_C) : Nat → FieldType
  | 0 => .int
  | 1 => .byte
  | 2 => .boolean
  | 3 => .long
  | n + 4 => .object (z_cn cls n)
def z_DR (g : zAV → Value → Prop) : Nat → List zAV → ((Nat → Int32) ⊕ (Nat → Int64) ⊕ (Nat → UInt32) ⊕ (Nat → UInt64) ⊕ (Nat → Option Nat)) → Prop
  | 0, pr, d => ∃ f, d = .inl f ∧ ∀ j, g (pr.getD j (.inl 0)) (.int (f j))
  | 1, pr, d => ∃ f, d = .inl f ∧ ∀ j, g (pr.getD j (.inl 0)) (.int (f j))
  | 2, pr, d => ∃ f, d = .inl f ∧ ∀ j, g (pr.getD j (.inl 0)) (.int (f j))
  | 3, _, d => ∃ f, d = .inr (.inl f)
  | _ + 4, pr, d => ∃ f, d = .inr (.inr (.inr (.inr f))) ∧ ∀ j, g (pr.getD j z_null) (va_rf (f j))
def z_ER (cls : List vw_C) (g : zAV → Value → Prop) (tys : List (ClassId × FieldType)) : zAE → va_E → Prop
  | .inl f, .inr o => f.1 = o.1 ∧ z_SR g f.2 o.2
  | .inr f, .inl o => f.2.1 = o.2.1 ∧ (∃ t0 : Nat, tys[t0]? = some (o.1, z_kty cls f.1)) ∧ z_DR g f.1 f.2.2 o.2.2
  | _, _ => False
def z_WR (cls : List vw_C) (g : zAV → Value → Prop) (tys : List (ClassId × FieldType)) : List zAE → va_W → Prop
  | [], [] => True
  | e :: es, x :: xs => z_ER cls g tys e x.2 ∧ z_WR cls g tys es xs
  | _, _ => False
theorem z_DR_mono {g g' : zAV → Value → Prop} (h : ∀ a v, g a v → g' a v) {kd : Nat} {pr : List zAV} {d : (Nat → Int32) ⊕ (Nat → Int64) ⊕ (Nat → UInt32) ⊕ (Nat → UInt64) ⊕ (Nat → Option Nat)} (hd : z_DR g kd pr d) : z_DR g' kd pr d := by
  match kd, hd with
  | 0, ⟨f, h1, h2⟩ => exact ⟨f, h1, fun j => h _ _ (h2 j)⟩
  | 1, ⟨f, h1, h2⟩ => exact ⟨f, h1, fun j => h _ _ (h2 j)⟩
  | 2, ⟨f, h1, h2⟩ => exact ⟨f, h1, fun j => h _ _ (h2 j)⟩
  | 3, hd => exact hd
  | _ + 4, ⟨f, h1, h2⟩ => exact ⟨f, h1, fun j => h _ _ (h2 j)⟩
theorem z_ER_mono {cls : List vw_C} {g g' : zAV → Value → Prop} {tys tys' : List (ClassId × FieldType)} (h : ∀ a v, g a v → g' a v) (ht : ∀ (t0 : Nat) (q : ClassId × FieldType), tys[t0]? = some q → tys'[t0]? = some q) : ∀ {e : zAE} {x : va_E}, z_ER cls g tys e x → z_ER cls g' tys' e x
  | .inl _, .inr _, hs => ⟨hs.1, z_SR_mono h hs.2⟩
  | .inr _, .inl _, hs => ⟨hs.1, hs.2.1.elim fun t0 h0 => ⟨t0, ht t0 _ h0⟩, z_DR_mono h hs.2.2⟩
  | .inl _, .inl _, hs => hs.elim
  | .inr _, .inr _, hs => hs.elim
theorem z_WR_mono {cls : List vw_C} {g g' : zAV → Value → Prop} {tys tys' : List (ClassId × FieldType)} (h : ∀ a v, g a v → g' a v) (ht : ∀ (t0 : Nat) (q : ClassId × FieldType), tys[t0]? = some q → tys'[t0]? = some q) : ∀ {w : List zAE} {cw : va_W}, z_WR cls g tys w cw → z_WR cls g' tys' w cw
  | [], [], _ => trivial
  | _ :: _, _ :: _, hs => ⟨z_ER_mono h ht hs.1, z_WR_mono h ht hs.2⟩
  | [], _ :: _, hs => hs.elim
  | _ :: _, [], hs => hs.elim
theorem z_WR_len {cls : List vw_C} {g : zAV → Value → Prop} {tys : List (ClassId × FieldType)} : ∀ {w : List zAE} {cw : va_W}, z_WR cls g tys w cw → w.length = cw.length
  | [], [], _ => rfl
  | _ :: _, _ :: _, hs => by simp [z_WR_len hs.2]
  | [], _ :: _, hs => hs.elim
  | _ :: _, [], hs => hs.elim
theorem z_WR_get {cls : List vw_C} {g : zAV → Value → Prop} {tys : List (ClassId × FieldType)} : ∀ {w : List zAE} {cw : va_W} {k : Nat} {e : zAE}, z_WR cls g tys w cw → w[k]? = some e → ∃ x, cw[k]? = some x ∧ z_ER cls g tys e x.2
  | [], [], k, _, _, h => by simp at h
  | _ :: _, _ :: _, 0, _, hs, h => by simp at h; subst h; exact ⟨_, rfl, hs.1⟩
  | _ :: w, _ :: cw, k + 1, _, hs, h => by simpa using z_WR_get (w := w) (cw := cw) (k := k) hs.2 (by simpa using h)
  | [], _ :: _, _, _, hs, _ => hs.elim
  | _ :: _, [], _, _, hs, _ => hs.elim
theorem z_WR_set {cls : List vw_C} {g : zAV → Value → Prop} {tys : List (ClassId × FieldType)} {e : zAE} {a : Nat} {x : va_E} (he : z_ER cls g tys e x) : ∀ {w : List zAE} {cw : va_W} (k : Nat), z_WR cls g tys w cw → z_WR cls g tys (w.set k e) (cw.set k (a, x))
  | [], [], _, hs => hs
  | _ :: _, _ :: _, 0, hs => ⟨he, hs.2⟩
  | _ :: _, _ :: _, k + 1, hs => ⟨hs.1, z_WR_set he k hs.2⟩
  | [], _ :: _, _, hs => hs.elim
  | _ :: _, [], _, hs => hs.elim
theorem z_WR_push {cls : List vw_C} {g : zAV → Value → Prop} {tys : List (ClassId × FieldType)} {e : zAE} {x : Nat × va_E} (he : z_ER cls g tys e x.2) : ∀ {w : List zAE} {cw : va_W}, z_WR cls g tys w cw → z_WR cls g tys (w ++ [e]) (cw ++ [x])
  | [], [], _ => ⟨he, trivial⟩
  | _ :: _, _ :: _, hs => ⟨hs.1, z_WR_push he hs.2⟩
  | [], _ :: _, hs => hs.elim
  | _ :: _, [], hs => hs.elim
theorem z_fst_set {cw : va_W} {k a : Nat} {x x' : va_E} (h : cw[k]? = some (a, x)) : (cw.set k (a, x')).map Prod.fst = cw.map Prod.fst := by
  rw [List.map_set]
  apply List.ext_getElem?
  intro j
  by_cases hj : k = j
  · subst hj
    have hl : k < (cw.map Prod.fst).length := by rw [List.length_map]; exact (List.getElem?_eq_some_iff.mp h).1
    rw [List.getElem?_set_self hl, List.getElem?_map, h]
    rfl
  · rw [List.getElem?_set_ne hj]
theorem z_le_push (cw : va_W) (x : Nat × va_E) : z_le (cw.map Prod.fst) ((cw ++ [x]).map Prod.fst) := by
  intro k a h
  rw [List.map_append, List.getElem?_append_left (List.getElem?_eq_some_iff.mp h).1]
  exact h
theorem z_ref_at {cw : va_W} {k a : Nat} (h : (cw.map Prod.fst)[k]? = some a) {x : Nat × va_E} (hx : cw[k]? = some x) : x.1 = a := by
  rw [List.getElem?_map, hx] at h
  exact Option.some.inj h
-- words
def z_G (tb : List Jvm.Cond) : List Jvm.Cond := tb.filter goodWord
def z_ws (tb : List Jvm.Cond) (mr : zMR) : List Jvm.Cond := Jvm.Cond.code (z_y mr) (z_cc mr) (z_mL mr) (z_rt mr) :: z_G tb
def z_NW (nw : List Jvm.Cond) (s : State) : Prop := (∀ (a : String) (i : Nat) (y : MethodName) (h : String), Jvm.Cond.methodLinkNest a i y h ∈ nw → va_Nw (.methodLinkNest a i y h) s) ∧ ∀ C : String, Jvm.Cond.arrayOver (.object C) ∈ nw → va_AO C s
theorem z_NW_warm {nw : List Jvm.Cond} {s U : State} (hW : s.WarmedH U.vm) (h : z_NW nw s) : z_NW nw U := ⟨fun a i y hh q => (h.1 a i y hh q).warmM hW, fun C q => (h.2 C q).moved hW.alike⟩
theorem z_NW_same {nw : List Jvm.Cond} {s U : State} (hv : s.vm = U.vm) (h : z_NW nw s) : z_NW nw U := ⟨fun a i y hh q => (h.1 a i y hh q).same rfl hv, fun C q => (h.2 C q).moved (by rw [hv]; exact Vm.Alike.refl U.vm)⟩
/-- how long an instruction is, of those that are gone through -/
def z_il : Jvm.ClassFile.Instr → Nat
  | .bipush _ => 2
  | .sipush _ => 3
  | .ldc _ => 2
  | .iload _ => 2
  | .aload _ => 2
  | .istore _ => 2
  | .astore _ => 2
  | .iinc _ _ => 3
  | .ifCond _ _ => 3
  | .if_icmp _ _ => 3
  | .ifnull _ => 3
  | .ifnonnull _ => 3
  | .goto _ => 3
  | .getfield _ => 3
  | .putfield _ => 3
  | .new _ => 3
  | .newarray _ => 2
  | .anewarray _ => 3
  | .invokevirtual _ => 3
  | .invokespecial _ => 3
  | .invokestatic _ => 3
  | _ => 1
def z_isw : Jvm.ClassFile.Instr → Bool
  | .tableswitch _ _ _ _ => true
  | .lookupswitch _ _ => true
  | _ => false
def z_dec (mr : zMR) (q : Nat) (i : Jvm.ClassFile.Instr) : Bool := match decode (z_cc mr) q with
  | .ok r => and (decide (r.1 = i)) (or (z_isw i) (decide (r.2 = z_il i)))
  | .error _ => false
theorem z_dec_ok {mr : zMR} {q : Nat} {i : Jvm.ClassFile.Instr} (h : z_dec mr q i = true) : ∃ n, decode (z_cc mr) q = .ok (i, n) ∧ (z_isw i = true ∨ n = z_il i) := by
  unfold z_dec at h
  cases hd : decode (z_cc mr) q with
  | error e => rw [hd] at h; cases h
  | ok r =>
    rw [hd] at h
    dsimp only at h
    rw [Bool.and_eq_true, Bool.or_eq_true] at h
    obtain ⟨i', n⟩ := r
    have h1 : i' = i := of_decide_eq_true h.1
    subst h1
    exact ⟨n, rfl, h.2.imp id of_decide_eq_true⟩
def z_w (tb : List Jvm.Cond) (n : Nat) (c : Jvm.Cond) : Bool := and (decide (tb[n]? = some c)) (goodWord c)
theorem z_w_ok {tb : List Jvm.Cond} {n : Nat} {c : Jvm.Cond} (h : z_w tb n c = true) : c ∈ z_G tb := by
  unfold z_w at h
  rw [Bool.and_eq_true] at h
  exact List.mem_filter.mpr ⟨List.mem_of_getElem? (of_decide_eq_true h.1), h.2⟩
/-- what the tables must say of an instruction -/
def z_okI (tb nw : List Jvm.Cond) (cls : List vw_C) (ms : List zMR) (mr : zMR) (q : Nat) (i : Jvm.ClassFile.Instr) (x1 x2 x3 : Nat) : Bool := match i with
  | .ldc j => z_w tb x3 (.constant (z_y mr).cls j (nI x1))
  | .ifCond _ o => decide ((q : Int) + o = (x1 : Int))
  | .if_icmp _ o => decide ((q : Int) + o = (x1 : Int))
  | .ifnull o => decide ((q : Int) + o = (x1 : Int))
  | .ifnonnull o => decide ((q : Int) + o = (x1 : Int))
  | .goto o => decide ((q : Int) + o = (x1 : Int))
  | .getfield j => (match cls[x1]? with
    | some c => and (Nat.blt x2 c.2.2) (z_w tb x3 (.fieldLink (z_y mr).cls j (c.2.1 x2).1 (c.2.1 x2).2.1 (c.2.1 x2).2.2.1))
    | none => false)
  | .putfield j => (match cls[x1]? with
    | some c => and (and (Nat.blt x2 c.2.2) (z_w tb x3 (.fieldLink (z_y mr).cls j (c.2.1 x2).1 (c.2.1 x2).2.1 (c.2.1 x2).2.2.1))) (or (decide ((c.2.1 x2).2.2.2 = false)) (and (decide ((z_y mr).name = "<init>")) (decide ((c.2.1 x2).1 = (z_y mr).cls))))
    | none => false)
  | .new j => (match cls[x1]? with
    | some c => z_w tb x3 (.classLink (z_y mr).cls j c.1)
    | none => false)
  | .anewarray j => (match cls[x1]? with
    | some c => and (z_w tb x3 (.classLink (z_y mr).cls j c.1)) (decide (nw[x2]? = some (.arrayOver (.object c.1))))
    | none => false)
  | .invokevirtual j => (match ms[x1]? with
    | some cm => and (decide ((parseMethodDescriptor (z_y cm).desc).map (fun d => d.parameters.length) = some (x2 % 100))) (z_w tb x3 (.methodLink (z_y mr).cls j (z_y cm)))
    | none => false)
  | .invokestatic j => (match ms[x1]? with
    | some cm => and (decide ((parseMethodDescriptor (z_y cm).desc).map (fun d => d.parameters.length) = some (x2 % 100))) (cond (Nat.ble 100 x2) (match nw[x3]? with
        | some (.methodLinkNest a b y _) => and (and (decide (a = (z_y mr).cls)) (decide (b = j))) (decide (y = z_y cm))
        | _ => false) (and (z_w tb x3 (.methodLink (z_y mr).cls j (z_y cm))) (decide ((z_y cm).cls = (z_y mr).cls))))
    | none => false)
  | .invokespecial j => cond (Nat.beq x2 50) (z_w tb x3 (.methodLink (z_y mr).cls j objectInit)) (match ms[x1]? with
    | some cm => and (and (decide ((z_y cm).name = "<init>")) (decide (z_rt cm = none))) (and (decide ((parseMethodDescriptor (z_y cm).desc).map (fun d => d.parameters.length) = some (x2 % 100))) (cond (Nat.ble 100 x2) (match nw[x3]? with
        | some (.methodLinkNest a b y _) => and (and (decide (a = (z_y mr).cls)) (decide (b = j))) (decide (y = z_y cm))
        | _ => false) (z_w tb x3 (.methodLink (z_y mr).cls j (z_y cm)))))
    | none => false)
  | _ => true
def z_okE (tb nw : List Jvm.Cond) (cls : List vw_C) (ms : List zMR) (mr : zMR) (x : zEnt) : Bool := and (z_dec mr x.1 x.2.1) (z_okI tb nw cls ms mr x.1 x.2.1 x.2.2.1 x.2.2.2.1 x.2.2.2.2)
/-- what the tables must say of a method: p1 its code, p2 its kind, p3 what it selects, p4 that its owner is ready -/
def z_okM (tb : List Jvm.Cond) (cls : List vw_C) (mr : zMR) (p1 p2 p3 p4 : Nat) : Bool :=
  and (and (and (z_w tb p1 (.code (z_y mr) (z_cc mr) (z_mL mr) (z_rt mr))) (z_w tb p4 (.initialized (z_y mr).cls))) (and (plainName (z_y mr).cls) (and (decide ((z_y mr).cls ≠ "java/lang/invoke/MethodHandle")) (decide ((z_y mr).cls ≠ "java/lang/invoke/VarHandle")))))
    (and (or (and (z_w tb p2 (.instanceMethod (z_y mr))) (or (decide ((z_y mr).name = "<init>")) (z_w tb p3 (.selects (z_y mr).cls (z_y mr) (z_y mr))))) (z_w tb p2 (.static (z_y mr)))) (decide ((cls[z_ci mr]?).map (fun c => c.1) = some (z_y mr).cls)))
end
