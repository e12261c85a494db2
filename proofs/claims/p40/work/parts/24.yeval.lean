-- the machine itself. Kinds of objects: 0 a cell of the fixed shape (by its place), 1 a train, 2 a train's row (by a sign)
abbrev yT : Type := yD ⊕ (List Nat ⊕ Nat)
abbrev yC : Type := (Nat × List yT) ⊕ (Nat × Nat × yT)
abbrev yF : Type := Nat × Nat × Nat × yV
abbrev yA : Type := Nat × Nat × yV × yV
/-- what has been written where a law is kept, the newest first: 0 a row's element, 1 a field, 2 an element as it was, 3 a field as it was -/
abbrev yLg : Type := Nat × Nat × yV × yV
abbrev yHp : Type := List yR × List yF × List yA × List yLg
abbrev yEnt : Type := Nat × Jvm.ClassFile.Instr × Nat × Nat × Nat × Nat
abbrev yMR : Type := MethodName × ByteArray × Nat × Option FieldType × Room × Nat × List yEnt
abbrev yPre : Type := List (Nat × Nat × yD)
/-- a place: a local, a field, a number, a sign of the entry; then rows by which it goes on -/
abbrev yPl : Type := Nat × Nat × Nat × List Nat
abbrev yEl : Type := yPl × Nat × yD
abbrev yRel : Type := Nat × yPl × yPl × yD
/-- an element, or something computed: a sign each -/
abbrev yIt : Type := yEl ⊕ yRel
/-- what is said at a place of the code: locals, fields, then elements and what is computed, in their order -/
abbrev yAn : Type := List (Nat × yT) × yPre × List yIt
abbrev yOut : Type := Option yT × yPre × List yIt
/-- what may be written: fields of cells, rows, trains -/
abbrev yWr : Type := List (Nat × Nat) × List Nat × Bool
abbrev yCN : Type := yMR × yAn × List yPl × List yOut × yWr
abbrev yLo : Type := List (Nat × yV)
abbrev yK : Type := Nat → yEnv → yHp → Option yV → Bool
abbrev yS : Type := Nat → yLo → List yV → Nat → yEnv → yHp → Bool
abbrev yGo : Type := yS → yMR → List yEnt → Nat → yLo → List yV → Nat → yEnv → yHp → yK → Bool
/-- the tables: shapes of cells, of a train, of its row; methods; contracts; what may be written -/
abbrev yTb : Type := List yC × yC × yC × List yMR × List yCN × yWr
abbrev y_null : yV := .inr (.inr (.inl none))
abbrev y_ob (kd i : Nat) : yV := .inr (.inr (.inl (some (kd, i))))
abbrev y_lng : yV := .inr (.inr (.inr 1))
abbrev y_scr : yV := .inr (.inr (.inr 2))
def y_isI : yV → Bool
  | .inl _ => true
  | .inr (.inl _) => true
  | _ => false
def y_isO : yV → Bool
  | .inr (.inr (.inl _)) => true
  | _ => false
def y_isR : yV → Bool
  | .inr (.inr (.inl _)) => true
  | .inr (.inr (.inr n)) => Nat.ble 2 n
  | _ => false
def y_isL : yV → Bool
  | .inr (.inr (.inr n)) => Nat.beq n 1
  | _ => false
noncomputable def y_lkl (lo : yLo) (i : Nat) (k : yV → Bool) : Bool := y_fl (fun q r => cond (Nat.beq q.1 i) (k q.2) r) false lo
noncomputable def y_dell (lo : yLo) (i : Nat) : (yLo → Bool) → Bool := y_fl (fun q ih k => cond (or (Nat.beq q.1 i) (and (Nat.beq (q.1 + 1) i) (y_isL q.2))) (ih k) (ih (fun t => k (q :: t)))) (fun k => k []) lo
noncomputable def y_pop1 (st : List yV) (f : yV → List yV → Bool) : Bool := match st with
  | a :: t => f a t
  | [] => false
noncomputable def y_from (l : List yEnt) (t : Nat) : List yEnt :=
  List.rec (motive := fun _ => List yEnt) [] (fun e es ih => cond (Nat.beq e.1 t) (e :: es) ih) l
/-- an object that is none but surely there -/
noncomputable def y_rcv (env : yEnv) (v : yV) (f : Nat → Nat → Bool) : Bool := match v with
  | .inr (.inr (.inl (some (0, k)))) => f 0 k
  | .inr (.inr (.inl (some (j + 1, i)))) => y_lk env i fun D => cond (y_sub D [(2147483649, 2147483649)]) (f (j + 1) i) false
  | _ => false
noncomputable def y_ff (fx : List yF) (kd i f : Nat) (k : yV → Bool) (no : Bool) : Bool := y_fl (fun q r => cond (and (Nat.beq q.1 kd) (and (Nat.beq q.2.1 i) (Nat.beq q.2.2.1 f))) (k q.2.2.2) r) no fx
noncomputable def y_fa (ax : List yA) (kd i : Nat) (j : yV) (k : yV → Bool) (no : Bool) : Bool := y_fl (fun q r => cond (and (Nat.beq q.1 kd) (and (Nat.beq q.2.1 i) (y_eqv q.2.2.1 j))) (k q.2.2.2) r) no ax
/-- facts that a write leaves: of a field (kind 0: of this cell; else of all trains), of a row -/
noncomputable def y_kf (fx : List yF) (kd i f : Nat) : (List yF → Bool) → Bool := y_fl (fun q ih k => cond (and (Nat.beq q.2.2.1 f) (cond (Nat.ble 1 kd) (Nat.ble 1 q.1) (and (Nat.beq q.1 0) (Nat.beq q.2.1 i)))) (ih k) (ih (fun t => k (q :: t)))) (fun k => k []) fx
def y_ncd (a b : yV) : Bool := match a, b with
  | .inl u, .inl v => !(Nat.beq (z_bu u) (z_bu v))
  | _, _ => false
noncomputable def y_ka (ax : List yA) (kd i : Nat) (j : yV) : (List yA → Bool) → Bool := y_fl (fun q ih k => cond (cond (Nat.ble 1 kd) (Nat.ble 1 q.1) (and (and (Nat.beq q.1 0) (Nat.beq q.2.1 i)) (!(y_ncd q.2.2.1 j)))) (ih k) (ih (fun t => k (q :: t)))) (fun k => k []) ax
/-- the shape of an object -/
noncomputable def y_sh (tb : yTb) (kd i : Nat) (f : yC → Bool) : Bool := match kd with
  | 0 => z_opl tb.1 i f
  | 1 => f tb.2.1
  | _ => f tb.2.2.1
noncomputable def y_obj (tb : yTb) (kd i ci fl : Nat) (f : yT → Bool) : Bool := y_sh tb kd i fun c => match c with
  | .inl (cj, ts) => cond (Nat.beq cj ci) (z_opl ts fl f) false
  | .inr _ => false
noncomputable def y_arr (tb : yTb) (kd i : Nat) (f : Nat → Nat → yT → Bool) : Bool := y_sh tb kd i fun c => match c with
  | .inr (q, n, t) => f q n t
  | .inl _ => false
noncomputable def y_alk (ks : List Nat) (k : Nat → Bool) : Bool := y_fl (fun a r => and (k a) r) true ks
/-- some value of a type -/
noncomputable def y_nv (t : yT) (n : Nat) (env : yEnv) (k : yV → Nat → yEnv → Bool) : Bool := match t with
  | .inl D => z_frc (n + 1) fun n' => k (y_sy n) n' ((n, D) :: env)
  | .inr (.inl ks) => y_alk ks fun a => k (y_ob 0 a) n env
  | .inr (.inr 0) => k y_lng n env
  | .inr (.inr 1) => z_frc (n + 1) fun n' => k (y_ob 1 n) n' ((n, [(2147483648, 2147483649)]) :: env)
  | .inr (.inr 2) => z_frc (n + 1) fun n' => k (y_ob 2 n) n' ((n, [(2147483649, 2147483649)]) :: env)
  | .inr (.inr 3) => z_frc (n + 1) fun n' => k (y_ob 1 n) n' ((n, [(2147483649, 2147483649)]) :: env)
  | _ => false
noncomputable def y_mem (a : Nat) (ks : List Nat) : Bool := y_fl (fun b r => or (Nat.beq a b) r) false ks
def y_isN (v : yV) : Bool := match v with
  | .inr (.inr (.inl none)) => true
  | .inr (.inr (.inl (some (1, _)))) => true
  | _ => false
noncomputable def y_isK (ks : List Nat) (v : yV) : Bool := match v with
  | .inr (.inr (.inl (some (0, a)))) => y_mem a ks
  | _ => false
/-- a value fits a type -/
noncomputable def y_fit (t : yT) (env : yEnv) (v : yV) : Bool := match t with
  | .inl E => and (y_isI v) (y_dm env v fun D => y_sub D E)
  | .inr (.inl ks) => y_isK ks v
  | .inr (.inr 0) => y_isL v
  | .inr (.inr 1) => y_isN v
  | .inr (.inr 2) => y_rcv env v fun kd _ => Nat.beq kd 2
  | .inr (.inr 3) => y_rcv env v fun kd _ => Nat.beq kd 1
  | _ => false
noncomputable def y_wf (tb : yTb) (kd i f : Nat) : Bool := match kd with
  | 0 => y_fl (fun q r => or (and (Nat.beq q.1 i) (Nat.beq q.2 f)) r) false tb.2.2.2.2.2.1
  | _ => tb.2.2.2.2.2.2.2
noncomputable def y_wa (tb : yTb) (kd i : Nat) : Bool := match kd with
  | 0 => y_mem i tb.2.2.2.2.2.2.1
  | _ => tb.2.2.2.2.2.2.2
/-- a place in a row: within it -/
noncomputable def y_ix (env : yEnv) (j : yV) (n : Nat) (k : yV → Bool) : Bool := y_rs env j fun j => y_dm env j fun D => cond (and (Nat.ble n 2147483647) (y_sub D [(2147483648, n + 2147483647)])) (k j) false
/-- rows and fields of which laws speak are marked: their number and 1000; a contract that needs a law has a mark of its own -/
noncomputable def y_lgd (tb : yTb) (kd i : Nat) : Bool := match kd with
  | 0 => y_mem (i + 1000) tb.2.2.2.2.2.2.1
  | _ => false
noncomputable def y_lgf (tb : yTb) (kd i f : Nat) : Bool := match kd with
  | 0 => y_wf tb 0 (i + 1000) f
  | _ => false
noncomputable def y_lgp (tb : yTb) (kd i f : Nat) (v : yV) (fx : List yF) (lg : List yLg) (k : List yLg → Bool) : Bool := cond (y_lgf tb kd i f) (cond (y_isI v) (y_ff fx 0 i f (fun w => cond (y_isI w) (k ((1, i, .inl f, v) :: (3, i, .inl f, w) :: lg)) false) (k ((1, i, .inl f, v) :: lg))) false) (k lg)
noncomputable def y_lgn (tb : yTb) (wr : yWr) : Bool := and (y_fl (fun q r => and (!(y_lgf tb 0 q.1 q.2)) r) true wr.1) (y_fl (fun q r => and (!(y_lgd tb 0 q)) r) true wr.2.1)
noncomputable def y_kc (wr : yWr) : Bool := y_fl (fun q r => or (and (Nat.ble 900 q) (Nat.ble q 999)) r) false wr.2.1
def y_eml (l : List yLg) : Bool := match l with
  | [] => true
  | _ :: _ => false
noncomputable def y_lod (tb : yTb) (kind : Nat) (a j : yV) (n : Nat) (env : yEnv) (h : yHp) (k : yV → Nat → yEnv → yHp → Bool) : Bool := y_rcv env a fun kd i => y_arr tb kd i fun q len t => cond (Nat.beq q kind) (y_ix env j len fun j => y_fa h.2.2.1 kd i j (fun v => k v n env h) (y_nv t n env fun v n env => k v n env (h.1, h.2.1, (kd, i, j, v) :: h.2.2.1, h.2.2.2))) false
noncomputable def y_sto (tb : yTb) (kind : Nat) (a j v : yV) (env : yEnv) (h : yHp) (k : yHp → Bool) : Bool := y_rcv env a fun kd i => cond (y_wa tb kd i) (y_arr tb kd i fun q len t => cond (and (Nat.beq q kind) (and (y_isI v) (y_fit t env v))) (y_ix env j len fun j => y_ka h.2.2.1 kd i j fun ax => cond (y_lgd tb kd i) (y_fa h.2.2.1 0 i j (fun w => cond (y_isI w) (k (h.1, h.2.1, (kd, i, j, v) :: ax, (0, i, j, v) :: (2, i, j, w) :: h.2.2.2)) false) (k (h.1, h.2.1, (kd, i, j, v) :: ax, (0, i, j, v) :: h.2.2.2))) (k (h.1, h.2.1, (kd, i, j, v) :: ax, h.2.2.2))) false) false
-- calls
noncomputable def y_popn (n : Nat) : List yV → List yV → (List yV → List yV → Bool) → Bool :=
  Nat.rec (motive := fun _ => List yV → List yV → (List yV → List yV → Bool) → Bool) (fun acc st k => k acc st) (fun _ ih acc st k => y_pop1 st fun a t => ih (a :: acc) t k) n
def y_arg (a : yV) : Bool := or (y_isI a) (y_isO a)
noncomputable def y_alv (f : yV → Bool) (l : List yV) : Bool := y_fl (fun a r => and (f a) r) true l
noncomputable def y_lnv (l : List yV) : Nat := y_fl (fun _ r => Nat.succ r) 0 l
noncomputable def y_env (l : List yV) : Nat → yLo := List.rec (motive := fun _ => Nat → yLo) (fun _ => []) (fun a _ ih i => (i, a) :: ih (cond (y_isL a) (i + 2) (i + 1))) l
noncomputable def y_slots (l : List yV) : Nat := y_fl (fun a r => cond (y_isL a) (r + 2) (r + 1)) 0 l
abbrev y_y (r : yMR) : MethodName := r.1
abbrev y_cc (r : yMR) : ByteArray := r.2.1
abbrev y_mL (r : yMR) : Nat := r.2.2.1
abbrev y_rt (r : yMR) : Option FieldType := r.2.2.2.1
abbrev y_rm (r : yMR) : Room := r.2.2.2.2.1
abbrev y_ci (r : yMR) : Nat := r.2.2.2.2.2.1
abbrev y_cd (r : yMR) : List yEnt := r.2.2.2.2.2.2
noncomputable def y_room (mr cm : yMR) (as t : List yV) : Bool := and (and (and (Nat.ble (y_slots t) 8) (Nat.ble (y_slots as) (y_mL cm))) (and (Nat.ble ((y_rm cm).frames + 1) (y_rm mr).frames) (Nat.ble (8 + (y_mL cm + 11) + (y_rm cm).locals) (y_rm mr).locals))) (and (Nat.beq (y_rm cm).cells 0) (Nat.beq (y_rm cm).slots 0))
noncomputable def y_inl (go : yGo) (mr cm : yMR) (as t : List yV) (n : Nat) (env : yEnv) (h : yHp) (cont : List yV → Nat → yEnv → yHp → Bool) : Bool :=
  cond (y_room mr cm as t) (go (fun _ _ _ _ _ _ => false) cm (y_cd cm) 0 (y_env as 0) [] n env h (fun n env h rv => match rv with | none => cont t n env h | some a => cont (a :: t) n env h)) false
/-- facts that a contract asks for -/
noncomputable def y_pre (tb : yTb) (env : yEnv) (fx : List yF) (ps : yPre) : Bool := y_fl (fun q r => and (y_ff fx 0 q.1 q.2.1 (fun v => y_dm env v fun D => y_sub D q.2.2) false) r) true ps
/-- facts that stay over a call -/
noncomputable def y_sf (wr : yWr) (fx : List yF) : (List yF → Bool) → Bool := y_fl (fun q ih k => cond (match q.1 with
  | 0 => y_fl (fun w r => or (and (Nat.beq w.1 q.2.1) (Nat.beq w.2 q.2.2.1)) r) false wr.1
  | _ => wr.2.2) (ih k) (ih (fun t => k (q :: t)))) (fun k => k []) fx
noncomputable def y_sa (wr : yWr) (ax : List yA) : (List yA → Bool) → Bool := y_fl (fun q ih k => cond (match q.1 with
  | 0 => y_mem q.2.1 wr.2.1
  | _ => wr.2.2) (ih k) (ih (fun t => k (q :: t)))) (fun k => k []) ax
noncomputable def y_post (ps : yPre) : Nat → yEnv → List yF → (Nat → yEnv → List yF → Bool) → Bool := y_fl (fun q ih n env fx k => z_frc (n + 1) fun n' => ih n' ((n, q.2.2) :: env) ((0, q.1, q.2.1, y_sy n) :: fx) k) (fun n env fx k => k n env fx) ps
noncomputable def y_wle (tb : yTb) (wr : yWr) : Bool := and (and (y_fl (fun q r => and (y_wf tb 0 q.1 q.2) r) true wr.1) (y_fl (fun q r => and (y_wa tb 0 q) r) true wr.2.1)) (cond wr.2.2 tb.2.2.2.2.2.2.2 true)
-- places
noncomputable def y_bd (rl : List yR) (env : yEnv) (a b : yV) (k : yD → Bool) : Bool := cond (y_eqv a b) (k [(2147483648, 2147483648)]) (y_fl (fun q r => cond (and (Nat.beq q.1 1) (and (y_eqv q.2.1 a) (y_eqv q.2.2.1 b))) (y_lk env q.2.2.2 k) (cond (and (Nat.beq q.1 1) (and (y_eqv q.2.1 b) (y_eqv q.2.2.1 a))) (y_lk env q.2.2.2 fun D => y_dop 1 [(2147483648, 2147483648)] D k) (cond (and (Nat.beq q.1 0) (and (y_eqv (y_sy q.2.2.2) a) (y_eqv q.2.1 b))) (y_dm env q.2.2.1 k) r))) (y_dm env a fun Da => y_dm env b fun Db => y_dop 1 Da Db k) rl)
/-- from a sign to another one, difference by difference -/
noncomputable def y_wlk (rl : List yR) (env : yEnv) (b : yV) (k : yD → Bool) (fu : Nat) : yV → yD → Bool := Nat.rec (motive := fun _ => yV → yD → Bool) (fun _ _ => false) (fun _ ih a acc => cond (y_eqv a b) (k acc) (y_fl (fun q r => cond (and (Nat.beq q.1 1) (y_eqv q.2.1 a)) (y_lk env q.2.2.2 fun D => y_dop 0 acc D fun acc => ih q.2.2.1 acc) r) false rl)) fu
/-- bounds of a difference -/
noncomputable def y_df (rl : List yR) (env : yEnv) (a b : yV) (k : yD → Bool) : Bool := or (or (y_wlk rl env b k 16 a [(2147483648, 2147483648)]) (or (y_bd rl env a b k) (y_rs env a fun a => y_rs env b fun b => y_bd rl env a b k))) (y_nrm rl 64 a 0 fun a oa => y_nrm rl 64 b 0 fun b ob => z_frc (z_b (nI oa - nI ob)) fun c => y_bd rl env a b fun D => y_dop 0 D [(c, c)] k)
noncomputable def y_pll (env : yEnv) (ax : List yA) (rows : List Nat) : yV → (yV → Bool) → Bool := y_fl (fun r ih v k => y_rs env v fun v => y_fa ax 0 r v (fun w => cond (y_isI w) (ih w k) false) false) (fun v k => k v) rows
noncomputable def y_plv (gh : List yV) (env : yEnv) (lo : yLo) (fx : List yF) (ax : List yA) (pl : yPl) (k : yV → Bool) : Bool := match pl.1 with
  | 0 => y_lkl lo pl.2.1 fun v => cond (y_isI v) (y_pll env ax pl.2.2.2 v k) false
  | 1 => y_ff fx 0 pl.2.1 pl.2.2.1 (fun v => cond (y_isI v) (y_pll env ax pl.2.2.2 v k) false) false
  | 2 => y_pll env ax pl.2.2.2 (.inl pl.2.1) k
  | _ => z_opl gh pl.2.1 fun v => cond (y_isI v) (y_pll env ax pl.2.2.2 v k) false
noncomputable def y_entL (ls : List (Nat × yT)) (lo : yLo) (env : yEnv) : Bool := y_fl (fun q r => and (y_lkl lo q.1 fun v => y_fit q.2 env v) r) true ls
noncomputable def y_snc (l : List yV) (v : yV) : List yV := y_fl (fun a r => a :: r) [v] l
noncomputable def y_ev2 (op : Nat) (v w : yV) (rl : List yR) (k : yV → Bool) : Bool := match v, w with
  | .inl x, .inl y => z_frc (z_un (y_op op (nI x) (nI y))) fun u => k (.inl u)
  | v, w => y_fnd op v w rl (fun d => k (y_sy d)) false
noncomputable def y_entI (lo : yLo) (env : yEnv) (h : yHp) (is : List yIt) : List yV → Bool := y_fl (fun q ih gh => match q with
  | .inl e => y_plv gh env lo h.2.1 h.2.2.1 e.1 fun v => y_pll env h.2.2.1 [e.2.1] v fun w => and (y_dm env w fun D => y_sub D e.2.2) (ih (y_snc gh w))
  | .inr e => y_plv gh env lo h.2.1 h.2.2.1 e.2.1 fun v => y_plv gh env lo h.2.1 h.2.2.1 e.2.2.1 fun w => cond (Nat.beq e.1 1) (and (y_df h.1 env v w fun D => y_sub D e.2.2.2) (ih (y_snc gh y_null))) (y_rs env v fun v => y_rs env w fun w => y_ev2 e.1 v w h.1 fun r => and (y_dm env r fun D => y_sub D e.2.2.2) (ih (y_snc gh r)))) (fun _ => true) is
/-- what is said holds here -/
noncomputable def y_ent (tb : yTb) (gh : List yV) (an : yAn) (lo : yLo) (env : yEnv) (h : yHp) : Bool := and (and (y_entL an.1 lo env) (y_pre tb env h.2.1 an.2.1)) (y_entI lo env h an.2.2 gh)
/-- a difference that is a number: the one is the other and that number -/
noncomputable def y_xr (e : yRel) (v w : yV) (rl : List yR) : List yR := match e.1, v, e.2.2.2 with
  | 1, .inr (.inl i), [(a, b)] => cond (Nat.beq a b) ((0, w, .inl (z_bu a), i) :: rl) rl
  | _, _, _ => rl
/-- elements, what is computed: taken in -/
noncomputable def y_opi (lo : yLo) (fx : List yF) (is : List yIt) : List yV → Nat → yEnv → List yR → List yA → (Nat → yEnv → List yR → List yA → Bool) → Bool := y_fl (fun q ih gh n env rl ax k => match q with
  | .inl e => y_plv gh env lo fx ax e.1 fun v => y_rs env v fun v => z_frc (n + 1) fun n' => ih (y_snc gh (y_sy n)) n' ((n, e.2.2) :: env) rl ((0, e.2.1, v, y_sy n) :: ax) k
  | .inr e => y_plv gh env lo fx ax e.2.1 fun v => y_plv gh env lo fx ax e.2.2.1 fun w => y_rs env v fun v => y_rs env w fun w => z_frc (n + 1) fun n' => ih (y_snc gh (y_sy n)) n' ((n, e.2.2.2) :: env) (y_xr e v w ((e.1, v, w, n) :: rl)) ax k) (fun _ n env rl ax k => y_pr rl env fun env => k n env rl ax) is
noncomputable def y_gho (env : yEnv) (lo : yLo) (fx : List yF) (ax : List yA) (gs : List yPl) : (List yV → Bool) → Bool := y_fl (fun g ih k => y_plv [] env lo fx ax g fun v => ih fun t => k (v :: t)) (fun k => k []) gs
noncomputable def y_outs (gh : List yV) (t : List yV) (ax : List yA) (o : yOut) (lg : List yLg) (cont : List yV → Nat → yEnv → yHp → Bool) (n : Nat) (env : yEnv) (rl : List yR) (fx : List yF) : Bool := match o.1 with
  | none => y_opi [] fx o.2.2 gh n env rl ax fun n env rl ax => cont t n env (rl, fx, ax, lg)
  | some ty => y_nv ty n env fun v n env => y_opi [(100, v)] fx o.2.2 gh n env rl ax fun n env rl ax => cont (v :: t) n env (rl, fx, ax, lg)
noncomputable def y_con (tb : yTb) (mr : yMR) (c : yCN) (as t : List yV) (n : Nat) (env : yEnv) (h : yHp) (cont : List yV → Nat → yEnv → yHp → Bool) : Bool :=
  cond (and (y_room mr c.1 as t) (and (y_ent tb [] c.2.1 (y_env as 0) env h) (and (y_wle tb c.2.2.2.2) (cond (y_kc c.2.2.2.2) (y_eml h.2.2.2) (y_lgn tb c.2.2.2.2)))))
    (y_gho env (y_env as 0) h.2.1 h.2.2.1 c.2.2.1 fun gh => y_sf c.2.2.2.2 h.2.1 fun fx => y_sa c.2.2.2.2 h.2.2.1 fun ax => y_fl (fun o r => and (y_post o.2.1 n env fx fun n env fx => y_outs gh t ax o h.2.2.2 cont n env h.1 fx) r) true c.2.2.2.1) false
