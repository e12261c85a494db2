-- the machine's steps (written by wip/t/yins.py)
noncomputable def y_nul (v : yV) (rl : List yR) (env : yEnv) (T F : yEnv → Bool) : Bool := match v with
  | .inr (.inr (.inl none)) => T env
  | .inr (.inr (.inl (some (0, _)))) => F env
  | .inr (.inr (.inl (some (_ + 1, i)))) => y_br .eq (y_sy i) (.inl 0) rl env T F
  | _ => false
noncomputable def y_ks (a : yV) (f : Nat → Bool) (g : Bool) : Bool := match a with
  | .inl u => f u
  | .inr (.inl _) => g
  | _ => false
noncomputable def y_tsw (l0 : Int) (q : Nat) (a : yV) (rl : List yR) (env : yEnv) (f : Nat → yEnv → Bool) (offs : List Int) : Nat → Bool :=
  List.rec (motive := fun _ => Nat → Bool) (fun _ => true) (fun o _ ih i => and (z_frc (z_un (Int32.ofInt (l0 + i))) fun u => y_eq a (.inl u) env fun e => y_pr rl e fun e => z_to q o fun tg => f tg e) (ih (i + 1))) offs
noncomputable def y_lsw (q : Nat) (a : yV) (rl : List yR) (env : yEnv) (f : Nat → yEnv → Bool) (ps : List (Int × Int)) : Bool :=
  y_fl (fun p r => and (z_frc (z_un (Int32.ofInt p.1)) fun u => y_eq a (.inl u) env fun e => y_pr rl e fun e => z_to q p.2 fun tg => f tg e) r) true ps
def y_isS (v : yV) : Bool := match v with
  | .inr (.inr (.inr n)) => Nat.beq n 2
  | _ => false
/-- a place of the script: sign 0, and at most 5 more -/
noncomputable def y_six (rl : List yR) (j : yV) : Bool := or (y_eqv j (y_sy 0)) (y_fl (fun q r => or (and (Nat.beq q.1 0) (and (y_eqv q.2.1 (y_sy 0)) (and (y_eqv (y_sy q.2.2.2) j) (match q.2.2.1 with | .inl c => Nat.ble c 5 | _ => false)))) r) false rl)
/-- the texts: 1000 times a text's length, and its place in b -/
def y_txs : List Nat := [5003, 5005, 4007, 6009, 4011, 3013, 2015]
noncomputable def y_txt (v : yV) (f : Nat → Bool) : Bool := match v with
  | .inr (.inr (.inr m)) => cond (y_mem m y_txs) (f m) false
  | _ => false
/-- a text's bytes -/
noncomputable def y_tby (v : yV) (f : Nat → Bool) (no : Bool) : Bool := match v with
  | .inr (.inr (.inr m)) => cond (y_mem (m - 1) y_txs) (f ((m - 1) / 1000)) false
  | _ => no
def y_emp (st : List yV) : Bool := match st with
  | [] => true
  | _ :: _ => false
noncomputable def y_al (ty : yT) (j : yV) (n : Nat) (env : yEnv) (k : yV → Nat → yEnv → Bool) : Bool := match ty with
  | .inr (.inl ks) => (match j with
    | .inl u => cond (Nat.blt u 2147483648) (z_opl ks u fun a => k (y_ob 0 a) n env) false
    | _ => false)
  | .inr (.inr 1) => y_nv (.inr (.inr 1)) n env k
  | _ => false
/-- a byte is put into a row: what it is then is not kept -/
noncomputable def y_byt (tb : yTb) (a j v : yV) (env : yEnv) (h : yHp) (k : yHp → Bool) : Bool := y_rcv env a fun kd i => cond (and (and (y_wa tb kd i) (!(y_lgd tb kd i))) (y_isI v)) (y_arr tb kd i fun q len t => cond (and (Nat.beq q 1) (match t with
  | .inl E => y_sub [(2147483520, 2147483775)] E
  | _ => false)) (y_ix env j len fun j => y_ka h.2.2.1 kd i j fun ax => k (h.1, h.2.1, ax, h.2.2.2)) false) false
noncomputable def y_cls (tb : yTb) (kd i ci : Nat) : Bool := y_sh tb kd i fun c => match c with
  | .inl (cj, _) => Nat.beq cj ci
  | .inr _ => false
noncomputable def y_rti (rt : Option FieldType) (env : yEnv) (a : yV) : Bool := match rt with
  | some .int => y_isI a
  | some .boolean => y_dm env a fun D => y_sub D [(2147483648, 2147483649)]
  | some .byte => y_dm env a fun D => y_sub D [(2147483648, 2147483648)]
  | some .char => y_dm env a fun D => y_sub D [(2147483648, 2147483903)]
  | _ => false
def y_rto (rt : Option FieldType) (a : yV) : Bool := match rt with
  | some (.object _) => y_isO a
  | some (.array _) => y_isO a
  | _ => false
def y_rtl (rt : Option FieldType) : Bool := match rt with
  | some .long => true
  | _ => false
def y_rtn (rt : Option FieldType) : Bool := match rt with
  | none => true
  | some _ => false
noncomputable def y_dle (env : yEnv) (v : yV) (a b : Nat) : Bool := y_dm env v fun D => y_sub D [(a, b)]
/-- a piece of a row is copied: from place p, c numbers, within n -/
noncomputable def y_pce (rl : List yR) (env : yEnv) (p c : yV) (n : Nat) : Bool := and (and (y_dle env p 2147483648 4294967295) (y_dle env c 2147483648 4294967295)) (or (y_dm env p fun D => y_hull D fun _ hp => y_dm env c fun E => y_hull E fun _ hc => Nat.ble (hp + hc) (n + 4294967296)) (y_fl (fun q r => or (and (Nat.beq q.1 1) (and (y_eqv q.2.2.1 p) (and (y_eqv (y_sy q.2.2.2) c) (y_dle env q.2.1 2147483648 (n + 2147483648))))) r) false rl))
def y_int (t : yT) : yD := match t with
  | .inl D => D
  | _ => []
noncomputable def y_nat (tb : yTb) (x2 : Nat) (st : List yV) (n : Nat) (env : yEnv) (h : yHp) (k : List yV → Nat → yEnv → yHp → Bool) : Bool := match x2 - 2000 with
  | 1 => y_pop1 st fun b st => y_pop1 st fun a t => cond (and (y_isI a) (y_isI b)) (y_br .lt a b h.1 env (fun e => k (b :: t) n e h) (fun e => k (a :: t) n e h)) false
  | 2 => y_pop1 st fun b st => y_pop1 st fun a t => cond (and (y_isI a) (y_isI b)) (y_br .lt b a h.1 env (fun e => k (b :: t) n e h) (fun e => k (a :: t) n e h)) false
  | 3 => y_pop1 st fun a t => cond (y_isI a) (y_nv (.inl y_top) n env fun v n env => k (v :: t) n env h) false
  | 4 => y_pop1 st fun c st => y_pop1 st fun dp st => y_pop1 st fun d st => y_pop1 st fun sp st => y_pop1 st fun s t => cond (and (y_isI c) (and (y_isI dp) (y_isI sp))) (y_rs env sp fun sp => y_rs env dp fun dp => y_rs env c fun c => y_rcv env s fun kd i => y_rcv env d fun kd2 i2 => y_arr tb kd i fun q len ty => y_arr tb kd2 i2 fun q2 len2 ty2 => cond (and (and (and (y_wa tb kd2 i2) (!(y_lgd tb kd2 i2))) (and (Nat.beq q 0) (Nat.beq q2 0))) (and (and (y_sub (y_int ty) (y_int ty2)) (and (Nat.ble len 2147483647) (Nat.ble len2 2147483647))) (and (y_pce h.1 env sp c len) (y_pce h.1 env dp c len2)))) (y_ka h.2.2.1 kd2 i2 y_null fun ax => k t n env (h.1, h.2.1, ax, h.2.2.2)) false) false
  | _ => false
abbrev yHd : Type := yTb → yGo → yS → yMR → Nat → Nat → Nat → Nat → List yEnt → yLo → List yV → Nat → yEnv → yHp → yK → Bool
def y_no : yHd := fun _ _ _ _ _ _ _ _ _ _ _ _ _ _ _ => false
noncomputable def y_h_iconst (v : Int) : yHd := fun tb go sp mr q x1 x2 x3 r lo st n env h k =>
  z_frc (z_un (Int32.ofInt v)) fun u => go sp mr r (q + 1) lo (.inl u :: st) n env h k
noncomputable def y_h_bipush (v : Int) : yHd := fun tb go sp mr q x1 x2 x3 r lo st n env h k =>
  z_frc (z_un (Int8.ofInt v).toInt32) fun u => go sp mr r (q + 2) lo (.inl u :: st) n env h k
noncomputable def y_h_sipush (v : Int) : yHd := fun tb go sp mr q x1 x2 x3 r lo st n env h k =>
  z_frc (z_un (Int16.ofInt v).toInt32) fun u => go sp mr r (q + 3) lo (.inl u :: st) n env h k
noncomputable def y_h_ldc (_ : Nat) : yHd := fun tb go sp mr q x1 x2 x3 r lo st n env h k =>
  z_frc x1 fun u => cond (Nat.beq x2 0) (go sp mr r (q + 2) lo (.inl u :: st) n env h k) (go sp mr r (q + 2) lo (.inr (.inr (.inr u)) :: st) n env h k)
noncomputable def y_h_getstatic (_ : Nat) : yHd := fun tb go sp mr q x1 x2 x3 r lo st n env h k =>
  cond (Nat.ble 4294967296 x1) (go sp mr r (q + 3) lo (.inr (.inr (.inr 0)) :: st) n env h k) (z_frc x1 fun u => go sp mr r (q + 3) lo (.inl u :: st) n env h k)
noncomputable def y_h_ldc_w (_ : Nat) : yHd := fun tb go sp mr q x1 x2 x3 r lo st n env h k =>
  z_frc x1 fun u => go sp mr r (q + 3) lo (.inl u :: st) n env h k
noncomputable def y_h_lconst (_ : Fin 2) : yHd := fun tb go sp mr q x1 x2 x3 r lo st n env h k =>
  go sp mr r (q + 1) lo (y_lng :: st) n env h k
noncomputable def y_h_ldc2_w (_ : Nat) : yHd := fun tb go sp mr q x1 x2 x3 r lo st n env h k =>
  go sp mr r (q + 3) lo (y_lng :: st) n env h k
noncomputable def y_h_aconst_null : yHd := fun tb go sp mr q x1 x2 x3 r lo st n env h k =>
  go sp mr r (q + 1) lo (y_null :: st) n env h k
noncomputable def y_h_iload_n (j : Fin 4) : yHd := fun tb go sp mr q x1 x2 x3 r lo st n env h k =>
  y_lkl lo j.val fun a => cond (y_isI a) (go sp mr r (q + 1) lo (a :: st) n env h k) false
noncomputable def y_h_iload (j : Nat) : yHd := fun tb go sp mr q x1 x2 x3 r lo st n env h k =>
  y_lkl lo j fun a => cond (y_isI a) (go sp mr r (q + 2) lo (a :: st) n env h k) false
noncomputable def y_h_aload_n (j : Fin 4) : yHd := fun tb go sp mr q x1 x2 x3 r lo st n env h k =>
  y_lkl lo j.val fun a => cond (y_isR a) (go sp mr r (q + 1) lo (a :: st) n env h k) false
noncomputable def y_h_aload (j : Nat) : yHd := fun tb go sp mr q x1 x2 x3 r lo st n env h k =>
  y_lkl lo j fun a => cond (y_isR a) (go sp mr r (q + 2) lo (a :: st) n env h k) false
noncomputable def y_h_lload_n (j : Fin 4) : yHd := fun tb go sp mr q x1 x2 x3 r lo st n env h k =>
  y_lkl lo j.val fun a => cond (y_isL a) (go sp mr r (q + 1) lo (a :: st) n env h k) false
noncomputable def y_h_lload (j : Nat) : yHd := fun tb go sp mr q x1 x2 x3 r lo st n env h k =>
  y_lkl lo j fun a => cond (y_isL a) (go sp mr r (q + 2) lo (a :: st) n env h k) false
noncomputable def y_h_istore_n (j : Fin 4) : yHd := fun tb go sp mr q x1 x2 x3 r lo st n env h k =>
  y_pop1 st fun a t => cond (and (y_isI a) (Nat.blt (j.val) (y_mL mr))) (y_dell lo (j.val) fun lo => go sp mr r (q + 1) ((j.val, a) :: lo) t n env h k) false
noncomputable def y_h_istore (j : Nat) : yHd := fun tb go sp mr q x1 x2 x3 r lo st n env h k =>
  y_pop1 st fun a t => cond (and (y_isI a) (Nat.blt (j) (y_mL mr))) (y_dell lo (j) fun lo => go sp mr r (q + 2) ((j, a) :: lo) t n env h k) false
noncomputable def y_h_astore_n (j : Fin 4) : yHd := fun tb go sp mr q x1 x2 x3 r lo st n env h k =>
  y_pop1 st fun a t => cond (and (y_isR a) (Nat.blt (j.val) (y_mL mr))) (y_dell lo (j.val) fun lo => go sp mr r (q + 1) ((j.val, a) :: lo) t n env h k) false
noncomputable def y_h_astore (j : Nat) : yHd := fun tb go sp mr q x1 x2 x3 r lo st n env h k =>
  y_pop1 st fun a t => cond (and (y_isR a) (Nat.blt (j) (y_mL mr))) (y_dell lo (j) fun lo => go sp mr r (q + 2) ((j, a) :: lo) t n env h k) false
noncomputable def y_h_lstore_n (j : Fin 4) : yHd := fun tb go sp mr q x1 x2 x3 r lo st n env h k =>
  y_pop1 st fun a t => cond (and (y_isL a) (Nat.blt (j.val + 1) (y_mL mr))) (y_dell lo (j.val) fun lo => y_dell lo (j.val + 1) fun lo => go sp mr r (q + 1) ((j.val, a) :: lo) t n env h k) false
noncomputable def y_h_lstore (j : Nat) : yHd := fun tb go sp mr q x1 x2 x3 r lo st n env h k =>
  y_pop1 st fun a t => cond (and (y_isL a) (Nat.blt (j + 1) (y_mL mr))) (y_dell lo (j) fun lo => y_dell lo (j + 1) fun lo => go sp mr r (q + 2) ((j, a) :: lo) t n env h k) false
noncomputable def y_h_iinc (j : Nat) (v : Int) : yHd := fun tb go sp mr q x1 x2 x3 r lo st n env h k =>
  y_lkl lo j fun a => cond (and (y_isI a) (Nat.blt j (y_mL mr))) (z_frc (z_un (Int32.ofInt v)) fun u => y_bin 0 a (.inl u) n env h.1 fun b n env rl => y_dell lo j fun lo => go sp mr r (q + 3) ((j, b) :: lo) st n env (rl, h.2) k) false
noncomputable def y_h_iadd : yHd := fun tb go sp mr q x1 x2 x3 r lo st n env h k =>
  y_pop1 st fun b st => y_pop1 st fun a t => y_bin 0 a b n env h.1 fun v n env rl => go sp mr r (q + 1) lo (v :: t) n env (rl, h.2) k
noncomputable def y_h_isub : yHd := fun tb go sp mr q x1 x2 x3 r lo st n env h k =>
  y_pop1 st fun b st => y_pop1 st fun a t => y_bin 1 a b n env h.1 fun v n env rl => go sp mr r (q + 1) lo (v :: t) n env (rl, h.2) k
noncomputable def y_h_imul : yHd := fun tb go sp mr q x1 x2 x3 r lo st n env h k =>
  y_pop1 st fun b st => y_pop1 st fun a t => y_bin 2 a b n env h.1 fun v n env rl => go sp mr r (q + 1) lo (v :: t) n env (rl, h.2) k
noncomputable def y_h_iand : yHd := fun tb go sp mr q x1 x2 x3 r lo st n env h k =>
  y_pop1 st fun b st => y_pop1 st fun a t => y_bin 3 a b n env h.1 fun v n env rl => go sp mr r (q + 1) lo (v :: t) n env (rl, h.2) k
noncomputable def y_h_ior : yHd := fun tb go sp mr q x1 x2 x3 r lo st n env h k =>
  y_pop1 st fun b st => y_pop1 st fun a t => y_bin 6 a b n env h.1 fun v n env rl => go sp mr r (q + 1) lo (v :: t) n env (rl, h.2) k
noncomputable def y_h_ishl : yHd := fun tb go sp mr q x1 x2 x3 r lo st n env h k =>
  y_pop1 st fun b st => y_pop1 st fun a t => y_bin 7 a b n env h.1 fun v n env rl => go sp mr r (q + 1) lo (v :: t) n env (rl, h.2) k
noncomputable def y_h_ishr : yHd := fun tb go sp mr q x1 x2 x3 r lo st n env h k =>
  y_pop1 st fun b st => y_pop1 st fun a t => y_bin 8 a b n env h.1 fun v n env rl => go sp mr r (q + 1) lo (v :: t) n env (rl, h.2) k
noncomputable def y_h_iushr : yHd := fun tb go sp mr q x1 x2 x3 r lo st n env h k =>
  y_pop1 st fun b st => y_pop1 st fun a t => y_bin 9 a b n env h.1 fun v n env rl => go sp mr r (q + 1) lo (v :: t) n env (rl, h.2) k
noncomputable def y_h_ixor : yHd := fun tb go sp mr q x1 x2 x3 r lo st n env h k =>
  y_pop1 st fun b st => y_pop1 st fun a t => y_bin 10 a b n env h.1 fun v n env rl => go sp mr r (q + 1) lo (v :: t) n env (rl, h.2) k
noncomputable def y_h_irem : yHd := fun tb go sp mr q x1 x2 x3 r lo st n env h k =>
  y_pop1 st fun b st => y_pop1 st fun a t => y_dm env b fun D => cond (y_sub D [(0, 2147483647), (2147483649, 4294967295)]) (y_bin 4 a b n env h.1 fun v n env rl => go sp mr r (q + 1) lo (v :: t) n env (rl, h.2) k) false
noncomputable def y_h_idiv : yHd := fun tb go sp mr q x1 x2 x3 r lo st n env h k =>
  y_pop1 st fun b st => y_pop1 st fun a t => y_dm env b fun D => cond (y_sub D [(0, 2147483647), (2147483649, 4294967295)]) (y_bin 5 a b n env h.1 fun v n env rl => go sp mr r (q + 1) lo (v :: t) n env (rl, h.2) k) false
noncomputable def y_h_ineg : yHd := fun tb go sp mr q x1 x2 x3 r lo st n env h k =>
  y_pop1 st fun a t => y_bin 1 (.inl 0) a n env h.1 fun v n env rl => go sp mr r (q + 1) lo (v :: t) n env (rl, h.2) k
noncomputable def y_h_i2b : yHd := fun tb go sp mr q x1 x2 x3 r lo st n env h k =>
  y_pop1 st fun a t => y_bin 11 a (.inl 0) n env h.1 fun v n env rl => go sp mr r (q + 1) lo (v :: t) n env (rl, h.2) k
noncomputable def y_h_i2c : yHd := fun tb go sp mr q x1 x2 x3 r lo st n env h k =>
  y_pop1 st fun a t => y_bin 12 a (.inl 0) n env h.1 fun v n env rl => go sp mr r (q + 1) lo (v :: t) n env (rl, h.2) k
noncomputable def y_h_i2l : yHd := fun tb go sp mr q x1 x2 x3 r lo st n env h k =>
  y_pop1 st fun a t => cond (y_isI a) (go sp mr r (q + 1) lo (y_lng :: t) n env h k) false
noncomputable def y_h_l2i : yHd := fun tb go sp mr q x1 x2 x3 r lo st n env h k =>
  y_pop1 st fun a t => cond (y_isL a) (y_nv (.inl y_top) n env fun v n env => go sp mr r (q + 1) lo (v :: t) n env h k) false
noncomputable def y_h_lor : yHd := fun tb go sp mr q x1 x2 x3 r lo st n env h k =>
  y_pop1 st fun b st => y_pop1 st fun a t => cond (and (y_isL a) (y_isL b)) (go sp mr r (q + 1) lo (y_lng :: t) n env h k) false
noncomputable def y_h_land : yHd := fun tb go sp mr q x1 x2 x3 r lo st n env h k =>
  y_pop1 st fun b st => y_pop1 st fun a t => cond (and (y_isL a) (y_isL b)) (go sp mr r (q + 1) lo (y_lng :: t) n env h k) false
noncomputable def y_h_lshl : yHd := fun tb go sp mr q x1 x2 x3 r lo st n env h k =>
  y_pop1 st fun b st => y_pop1 st fun a t => cond (and (y_isL a) (y_isI b)) (go sp mr r (q + 1) lo (y_lng :: t) n env h k) false
noncomputable def y_h_lshr : yHd := fun tb go sp mr q x1 x2 x3 r lo st n env h k =>
  y_pop1 st fun b st => y_pop1 st fun a t => cond (and (y_isL a) (y_isI b)) (go sp mr r (q + 1) lo (y_lng :: t) n env h k) false
noncomputable def y_h_lushr : yHd := fun tb go sp mr q x1 x2 x3 r lo st n env h k =>
  y_pop1 st fun b st => y_pop1 st fun a t => cond (and (y_isL a) (y_isI b)) (go sp mr r (q + 1) lo (y_lng :: t) n env h k) false
noncomputable def y_h_lcmp : yHd := fun tb go sp mr q x1 x2 x3 r lo st n env h k =>
  y_pop1 st fun b st => y_pop1 st fun a t => cond (and (y_isL a) (y_isL b)) (y_nv (.inl [(2147483647, 2147483649)]) n env fun v n env => go sp mr r (q + 1) lo (v :: t) n env h k) false
noncomputable def y_h_ifCond (c : Jvm.ClassFile.Cond) (_ : Int) : yHd := fun tb go sp mr q x1 x2 x3 r lo st n env h k =>
  y_pop1 st fun a t => cond (y_isI a) (y_br c a (.inl 0) h.1 env (fun e => go sp mr (y_from (y_cd mr) x1) x1 lo t n e h k) (fun e => go sp mr r (q + 3) lo t n e h k)) false
noncomputable def y_h_if_icmp (c : Jvm.ClassFile.Cond) (_ : Int) : yHd := fun tb go sp mr q x1 x2 x3 r lo st n env h k =>
  y_pop1 st fun b st => y_pop1 st fun a t => cond (and (y_isI a) (y_isI b)) (y_br c a b h.1 env (fun e => go sp mr (y_from (y_cd mr) x1) x1 lo t n e h k) (fun e => go sp mr r (q + 3) lo t n e h k)) false
noncomputable def y_h_ifnull (_ : Int) : yHd := fun tb go sp mr q x1 x2 x3 r lo st n env h k =>
  y_pop1 st fun v t => y_nul v h.1 env (fun e => go sp mr (y_from (y_cd mr) x1) x1 lo t n e h k) (fun e => go sp mr r (q + 3) lo t n e h k)
noncomputable def y_h_ifnonnull (_ : Int) : yHd := fun tb go sp mr q x1 x2 x3 r lo st n env h k =>
  y_pop1 st fun v t => y_nul v h.1 env (fun e => go sp mr r (q + 3) lo t n e h k) (fun e => go sp mr (y_from (y_cd mr) x1) x1 lo t n e h k)
noncomputable def y_h_goto (_ : Int) : yHd := fun tb go sp mr q x1 x2 x3 r lo st n env h k =>
  go sp mr (y_from (y_cd mr) x1) x1 lo st n env h k
noncomputable def y_h_dup : yHd := fun tb go sp mr q x1 x2 x3 r lo st n env h k =>
  y_pop1 st fun a t => cond (!(y_isL a)) (go sp mr r (q + 1) lo (a :: a :: t) n env h k) false
noncomputable def y_h_dup2 : yHd := fun tb go sp mr q x1 x2 x3 r lo st n env h k =>
  y_pop1 st fun b st1 => y_pop1 st1 fun a t => cond (and (!(y_isL a)) (!(y_isL b))) (go sp mr r (q + 1) lo (b :: a :: b :: a :: t) n env h k) false
noncomputable def y_h_pop : yHd := fun tb go sp mr q x1 x2 x3 r lo st n env h k =>
  y_pop1 st fun a t => cond (!(y_isL a)) (go sp mr r (q + 1) lo (t) n env h k) false
noncomputable def y_h_tableswitch (d : Int) (l0 : Int) (h0 : Int) (offs : Array Int) : yHd := fun tb go sp mr q x1 x2 x3 r lo st n env h k =>
  y_pop1 st fun a t => y_rs env a fun a => y_ks a
    (fun u => cond (or (decide ((nI u).toInt < l0)) (decide (h0 < (nI u).toInt))) (z_to q d fun tg => go sp mr (y_from (y_cd mr) tg) tg lo t n env h k) (z_op offs[((nI u).toInt - l0).toNat]? fun o => z_to q o fun tg => go sp mr (y_from (y_cd mr) tg) tg lo t n env h k))
    (and (z_to q d fun tg => and (z_frc (z_un (Int32.ofInt l0)) fun u => y_lt a (.inl u) env fun e => y_pr h.1 e fun e => go sp mr (y_from (y_cd mr) tg) tg lo t n e h k) (z_frc (z_un (Int32.ofInt h0)) fun u => y_lt (.inl u) a env fun e => y_pr h.1 e fun e => go sp mr (y_from (y_cd mr) tg) tg lo t n e h k)) (y_tsw l0 q a h.1 env (fun tg e => go sp mr (y_from (y_cd mr) tg) tg lo t n e h k) offs.toList 0))
noncomputable def y_h_lookupswitch (d : Int) (ps : Array (Int × Int)) : yHd := fun tb go sp mr q x1 x2 x3 r lo st n env h k =>
  y_pop1 st fun a t => cond (z_srt ps) (y_rs env a fun a => y_ks a
    (fun u => z_to q (Op.lookupswitch.offset ps.toList d (nI u).toInt) fun tg => go sp mr (y_from (y_cd mr) tg) tg lo t n env h k)
    (and (z_to q d fun tg => go sp mr (y_from (y_cd mr) tg) tg lo t n env h k) (y_lsw q a h.1 env (fun tg e => go sp mr (y_from (y_cd mr) tg) tg lo t n e h k) ps.toList))) false
noncomputable def y_h_getfield (_ : Nat) : yHd := fun tb go sp mr q x1 x2 x3 r lo st n env h k =>
  y_pop1 st fun v t => cond (Nat.beq x1 99) (y_txt v fun m => cond (Nat.beq x2 0) (z_frc (m + 1) fun m => go sp mr r (q + 3) lo (.inr (.inr (.inr m)) :: t) n env h k) (go sp mr r (q + 3) lo (.inl 0 :: t) n env h k)) (y_rcv env v fun kd i => y_obj tb kd i x1 x2 fun ty => y_ff h.2.1 kd i x2 (fun v => go sp mr r (q + 3) lo (v :: t) n env h k) (y_nv ty n env fun v n env => go sp mr r (q + 3) lo (v :: t) n env (h.1, (kd, i, x2, v) :: h.2.1, h.2.2) k))
noncomputable def y_h_putfield (_ : Nat) : yHd := fun tb go sp mr q x1 x2 x3 r lo st n env h k =>
  y_pop1 st fun v st => y_pop1 st fun o t => y_rcv env o fun kd i => cond (y_wf tb kd i x2) (y_obj tb kd i x1 x2 fun ty => cond (y_fit ty env v) (y_kf h.2.1 kd i x2 fun fx => y_lgp tb kd i x2 v h.2.1 h.2.2.2 fun lg => go sp mr r (q + 3) lo (t) n env (h.1, (kd, i, x2, v) :: fx, h.2.2.1, lg) k) false) false
noncomputable def y_h_arraylength : yHd := fun tb go sp mr q x1 x2 x3 r lo st n env h k =>
  y_pop1 st fun v t => y_tby v (fun len => z_frc len fun len => go sp mr r (q + 1) lo (.inl len :: t) n env h k) (y_rcv env v fun kd i => y_arr tb kd i fun _ len _ => go sp mr r (q + 1) lo (.inl len :: t) n env h k)
noncomputable def y_h_iaload : yHd := fun tb go sp mr q x1 x2 x3 r lo st n env h k =>
  y_pop1 st fun j st => y_pop1 st fun a t => cond (y_isS a) (cond (y_six h.1 j) (y_nv (.inl y_top) n env fun v n env => go sp mr r (q + 1) lo (v :: t) n env h k) false) (y_lod tb 0 a j n env h fun v n env h => go sp mr r (q + 1) lo (v :: t) n env h k)
noncomputable def y_h_baload : yHd := fun tb go sp mr q x1 x2 x3 r lo st n env h k =>
  y_pop1 st fun j st => y_pop1 st fun a t => y_tby a (fun len => y_ix env j len fun _ => y_nv (.inl y_top) n env fun v n env => go sp mr r (q + 1) lo (v :: t) n env h k) (or (y_lod tb 1 a j n env h fun v n env h => go sp mr r (q + 1) lo (v :: t) n env h k) (y_lod tb 2 a j n env h fun v n env h => go sp mr r (q + 1) lo (v :: t) n env h k))
noncomputable def y_h_laload : yHd := fun tb go sp mr q x1 x2 x3 r lo st n env h k =>
  y_pop1 st fun j st => y_pop1 st fun a t => y_rcv env a fun kd i => y_arr tb kd i fun qq len _ => cond (Nat.beq qq 3) (y_ix env j len fun _ => go sp mr r (q + 1) lo (y_lng :: t) n env h k) false
noncomputable def y_h_aaload : yHd := fun tb go sp mr q x1 x2 x3 r lo st n env h k =>
  y_pop1 st fun j st => y_pop1 st fun a t => y_rcv env a fun kd i => y_arr tb kd i fun qq len ty => cond (Nat.ble 4 qq) (y_ix env j len fun j => y_al ty j n env fun v n env => go sp mr r (q + 1) lo (v :: t) n env h k) false
noncomputable def y_h_iastore : yHd := fun tb go sp mr q x1 x2 x3 r lo st n env h k =>
  y_pop1 st fun v st => y_pop1 st fun j st => y_pop1 st fun a t => y_sto tb 0 a j v env h fun h => go sp mr r (q + 1) lo (t) n env h k
noncomputable def y_h_bastore : yHd := fun tb go sp mr q x1 x2 x3 r lo st n env h k =>
  y_pop1 st fun v st => y_pop1 st fun j st => y_pop1 st fun a t => or (y_dm env v fun D => cond (y_sub D [(2147483648, 2147483649)]) (y_sto tb 2 a j v env h fun h => go sp mr r (q + 1) lo (t) n env h k) false) (y_pop1 st fun _ _ => y_byt tb a j v env h fun h => go sp mr r (q + 1) lo (t) n env h k)
noncomputable def y_h_lastore : yHd := fun tb go sp mr q x1 x2 x3 r lo st n env h k =>
  y_pop1 st fun v st => y_pop1 st fun j st => y_pop1 st fun a t => y_rcv env a fun kd i => cond (and (and (y_wa tb kd i) (!(y_lgd tb kd i))) (y_isL v)) (y_arr tb kd i fun qq len _ => cond (Nat.beq qq 3) (y_ix env j len fun _ => go sp mr r (q + 1) lo (t) n env h k) false) false
noncomputable def y_h_invokevirtual (_ : Nat) : yHd := fun tb go sp mr q x1 x2 x3 r lo st n env h k =>
  cond (Nat.ble 300 (x2 % 1000)) (y_popn (x2 % 100) [] st fun as st1 => y_pop1 st1 fun o t => y_txt o fun _ => cond (Nat.ble 1000 x2) false (z_opl tb.2.2.2.1 x1 fun cm => cond (Nat.beq (y_ci cm) 99) (y_inl go mr cm (o :: as) t n env h (fun t n env h => go sp mr r (q + 3) lo t n env h k)) false)) (y_popn (x2 % 100) [] st fun as st1 => y_pop1 st1 fun o t => y_rcv env o fun kd i => (cond (Nat.ble 1000 x2) (z_opl tb.2.2.2.2.1 x1 fun c => cond (y_cls tb kd i (y_ci c.1)) (y_con tb mr c (o :: as) t n env h (fun t n env h => go sp mr r (q + 3) lo t n env h k)) false) (z_opl tb.2.2.2.1 x1 fun cm => cond (y_cls tb kd i (y_ci cm)) (y_inl go mr cm (o :: as) t n env h (fun t n env h => go sp mr r (q + 3) lo t n env h k)) false)))
noncomputable def y_h_invokespecial (_ : Nat) : yHd := fun tb go sp mr q x1 x2 x3 r lo st n env h k =>
  y_popn (x2 % 100) [] st fun as st1 => y_pop1 st1 fun o t => y_rcv env o fun kd i => (cond (Nat.ble 1000 x2) (z_opl tb.2.2.2.2.1 x1 fun c => cond (y_cls tb kd i (y_ci c.1)) (y_con tb mr c (o :: as) t n env h (fun t n env h => go sp mr r (q + 3) lo t n env h k)) false) (z_opl tb.2.2.2.1 x1 fun cm => cond (y_cls tb kd i (y_ci cm)) (y_inl go mr cm (o :: as) t n env h (fun t n env h => go sp mr r (q + 3) lo t n env h k)) false))
noncomputable def y_h_invokestatic (_ : Nat) : yHd := fun tb go sp mr q x1 x2 x3 r lo st n env h k =>
  cond (Nat.ble 2000 x2) (cond (and (Nat.ble 1 (y_rm mr).frames) (Nat.ble (y_slots st + 40) (y_rm mr).locals)) (y_nat tb x2 st n env h fun t n env h => go sp mr r (q + 3) lo t n env h k) false) (y_popn (x2 % 100) [] st fun as st1 => (cond (Nat.ble 1000 x2) (z_opl tb.2.2.2.2.1 x1 fun c => y_con tb mr c as st1 n env h (fun t n env h => go sp mr r (q + 3) lo t n env h k)) (z_opl tb.2.2.2.1 x1 fun cm => y_inl go mr cm as st1 n env h (fun t n env h => go sp mr r (q + 3) lo t n env h k))))
noncomputable def y_h_ireturn : yHd := fun tb go sp mr q x1 x2 x3 r lo st n env h k =>
  y_pop1 st fun a t => cond (and (y_emp t) (y_rti (y_rt mr) env a)) (k n env h (some a)) false
noncomputable def y_h_lreturn : yHd := fun tb go sp mr q x1 x2 x3 r lo st n env h k =>
  y_pop1 st fun a t => cond (and (y_emp t) (and (y_isL a) (y_rtl (y_rt mr)))) (k n env h (some a)) false
noncomputable def y_h_areturn : yHd := fun tb go sp mr q x1 x2 x3 r lo st n env h k =>
  y_pop1 st fun a t => cond (and (y_emp t) (y_rto (y_rt mr) a)) (k n env h (some a)) false
noncomputable def y_h_return_ : yHd := fun tb go sp mr q x1 x2 x3 r lo st n env h k =>
  cond (and (y_emp st) (y_rtn (y_rt mr))) (k n env h none) false
noncomputable def y_ins (i : Jvm.ClassFile.Instr) : yHd :=
  Jvm.ClassFile.Instr.rec (motive := fun _ => yHd) y_h_aaload y_no y_h_aconst_null y_h_aload y_h_aload_n (fun _ => y_no) y_h_areturn y_h_arraylength y_h_astore y_h_astore_n y_no y_h_baload y_h_bastore y_h_bipush y_no y_no (fun _ => y_no) y_no y_no y_no y_no y_no y_no (fun _ => y_no) (fun _ => y_no) y_no (fun _ => y_no) (fun _ => y_no) y_no y_no y_no y_no (fun _ => y_no) (fun _ => y_no) y_no y_h_dup y_no y_no y_h_dup2 y_no y_no y_no y_no y_no y_no y_no y_no (fun _ => y_no) (fun _ => y_no) y_no (fun _ => y_no) (fun _ => y_no) y_no y_no y_no y_no (fun _ => y_no) (fun _ => y_no) y_no y_h_getfield y_h_getstatic y_h_goto (fun _ => y_no) y_h_i2b y_h_i2c y_no y_no y_h_i2l y_no y_h_iadd y_h_iaload y_h_iand y_h_iastore y_h_iconst y_h_idiv (fun _ _ => y_no) y_h_if_icmp y_h_ifCond y_h_ifnonnull y_h_ifnull y_h_iinc y_h_iload y_h_iload_n y_h_imul y_h_ineg (fun _ => y_no) (fun _ => y_no) (fun _ _ => y_no) y_h_invokespecial y_h_invokestatic y_h_invokevirtual y_h_ior y_h_irem y_h_ireturn y_h_ishl y_h_ishr y_h_istore y_h_istore_n y_h_isub y_h_iushr y_h_ixor (fun _ => y_no) (fun _ => y_no) y_no y_no y_h_l2i y_no y_h_laload y_h_land y_h_lastore y_h_lcmp y_h_lconst y_h_ldc y_h_ldc_w y_h_ldc2_w y_no y_h_lload y_h_lload_n y_no y_no y_h_lookupswitch y_h_lor y_no y_h_lreturn y_h_lshl y_h_lshr y_h_lstore y_h_lstore_n y_no y_h_lushr y_no y_no y_no (fun _ _ => y_no) (fun _ => y_no) (fun _ => y_no) y_no y_h_pop y_no y_h_putfield (fun _ => y_no) (fun _ => y_no) y_h_return_ y_no y_no y_h_sipush y_no y_h_tableswitch i
/-- what a place may add of itself: a hint, or a sign gone through number by number -/
abbrev yHn : Type := Nat → yLo → List yV → Nat → yEnv → yHp → (Nat → yEnv → yHp → Bool) → Bool
noncomputable def y_step (hn : yHn) (tb : yTb) (go : yGo) : yGo := fun sp mr cd pc lo st n env h k => match cd with
  | [] => false
  | (q, i, x1, x2, x3, fl) :: r => cond (Nat.beq q pc) (cond (Nat.beq fl 0) (y_ins i tb go sp mr q x1 x2 x3 r lo st n env h k) (cond (Nat.beq fl 1) (sp pc lo st n env h) (hn fl lo st n env h fun n env h => y_ins i tb go sp mr q x1 x2 x3 r lo st n env h k))) false
noncomputable def y_ev (hn : yHn) (tb : yTb) (fu : Nat) : yGo := Nat.rec (motive := fun _ => yGo) (fun _ _ _ _ _ _ _ _ _ _ => false) (fun _ go => y_step hn tb go) fu
