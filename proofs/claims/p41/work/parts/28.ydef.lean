-- what the tables must say; what is to be shown of a run, of a method
def y_natn (x2 : Nat) : MethodName := match x2 - 2000 with
  | 1 => Lib.Math.max.name
  | 2 => Lib.Math.min.name
  | 3 => Lib.Math.abs.name
  | _ => arraycopyName
/-- the method that a call is of: run through, or by its contract -/
noncomputable def y_cal (tb : yTb) (x1 x2 : Nat) (f : yMR → Bool) : Bool := cond (Nat.ble 1000 x2) (z_opl tb.2.2.2.2.1 x1 fun c => f c.1) (z_opl tb.2.2.2.1 x1 f)
def y_dec (mr : yMR) (q : Nat) (i : Jvm.ClassFile.Instr) : Bool := match decode (y_cc mr) q with
  | .ok r => and (decide (r.1 = i)) (or (z_isw i) (decide (r.2 = z_il i)))
  | .error _ => false
noncomputable def y_wl (wt : zTB) (n : Nat) (own : String) (j : Nat) : Bool := match z_at wt (n / 1000) with
  | some l => (match z_at l (n % 1000) with
    | some (.constantLong a i _) => and (decide (a = own)) (decide (i = j))
    | _ => false)
  | none => false
/-- a text's entry, a static's number -/
def y_okS (nw : List Jvm.Cond) (own : String) (j x1 x3 : Nat) : Bool := match nw[x3]? with
  | some (.stringRef a k _) => and (and (decide (a = own)) (decide (k = j))) (and (decide (x1 % 1000 = 2 * x3 + 3)) (Nat.ble 3 x1))
  | _ => false
noncomputable def y_okG (wt : zTB) (nw : List Jvm.Cond) (own : String) (j x1 x2 x3 : Nat) : Bool := match nw[x2]? with
  | some (.eq (.static a n d) (.int y)) => and (decide (y = nI x1)) (z_w wt x3 (.fieldLink own j a n d))
  | _ => false
noncomputable def y_okQ (wt : zTB) (nw : List Jvm.Cond) (own : String) (j x2 x3 : Nat) : Bool := match nw[x2]? with
  | some (.isRef (.static a n d)) => z_w wt x3 (.fieldLink own j a n d)
  | _ => false
noncomputable def y_okI (wt : zTB) (nw : List Jvm.Cond) (cls : List vw_C) (tb : yTb) (mr : yMR) (q : Nat) (i : Jvm.ClassFile.Instr) (x1 x2 x3 : Nat) : Bool := match i with
  | .ldc j => cond (Nat.beq x2 0) (z_w wt x3 (.constant (y_y mr).cls j (nI x1))) (y_okS nw (y_y mr).cls j x1 x3)
  | .getstatic j => cond (Nat.ble 4294967296 x1) (y_okQ wt nw (y_y mr).cls j x2 x3) (y_okG wt nw (y_y mr).cls j x1 x2 x3)
  | .ldc_w j => z_w wt x3 (.constant (y_y mr).cls j (nI x1))
  | .ldc2_w j => y_wl wt x3 (y_y mr).cls j
  | .ifCond _ o => decide ((q : Int) + o = (x1 : Int))
  | .if_icmp _ o => decide ((q : Int) + o = (x1 : Int))
  | .ifnull o => decide ((q : Int) + o = (x1 : Int))
  | .ifnonnull o => decide ((q : Int) + o = (x1 : Int))
  | .goto o => decide ((q : Int) + o = (x1 : Int))
  | .getfield j => cond (Nat.beq x1 99) (cond (Nat.beq x2 0) (z_w wt x3 (.fieldLink (y_y mr).cls j "java/lang/String" "value" "[B")) (z_w wt x3 (.fieldLink (y_y mr).cls j "java/lang/String" "coder" "B"))) (match cls[x1]? with
    | some c => and (Nat.blt x2 c.2.2) (z_w wt x3 (.fieldLink (y_y mr).cls j (c.2.1 x2).1 (c.2.1 x2).2.1 (c.2.1 x2).2.2.1))
    | none => false)
  | .putfield j => (match cls[x1]? with
    | some c => and (and (Nat.blt x2 c.2.2) (z_w wt x3 (.fieldLink (y_y mr).cls j (c.2.1 x2).1 (c.2.1 x2).2.1 (c.2.1 x2).2.2.1))) (decide ((c.2.1 x2).2.2.2 = false))
    | none => false)
  | .invokevirtual j => y_cal tb x1 x2 fun cm => and (and (Nat.blt (y_ci cm) (cond (Nat.ble 300 (x2 % 1000)) 100 99)) (decide ((y_y cm).name ≠ "<init>"))) (and (decide ((parseMethodDescriptor (y_y cm).desc).map (fun d => d.parameters.length) = some (x2 % 100))) (z_w wt x3 (.methodLink (y_y mr).cls j (y_y cm))))
  | .invokestatic j => cond (Nat.ble 2000 x2) (z_w wt x3 (.methodLink (y_y mr).cls j (y_natn x2))) (y_cal tb x1 x2 fun cm => and (Nat.ble 100 (y_ci cm)) (and (decide ((parseMethodDescriptor (y_y cm).desc).map (fun d => d.parameters.length) = some (x2 % 100))) (cond (Nat.ble 100 (x2 % 1000)) (match nw[x3]? with
      | some (.methodLinkNest a b y _) => and (and (decide (a = (y_y mr).cls)) (decide (b = j))) (decide (y = y_y cm))
      | _ => false) (z_w wt x3 (.methodLink (y_y mr).cls j (y_y cm))))))
  | .tableswitch _ l0 h0 offs => and (and (decide (-2147483648 ≤ l0)) (decide (l0 ≤ h0))) (and (decide (h0 ≤ 2147483647)) (decide ((offs.size : Int) = h0 - l0 + 1)))
  | .invokespecial _ => false
  | _ => true
noncomputable def y_okE (wt : zTB) (nw : List Jvm.Cond) (cls : List vw_C) (tb : yTb) (mr : yMR) (x : yEnt) : Bool := and (y_dec mr x.1 x.2.1) (y_okI wt nw cls tb mr x.1 x.2.1 x.2.2.1 x.2.2.2.1 x.2.2.2.2.1)
def y_ws (wt : zTB) (mr : yMR) : List Jvm.Cond := Jvm.Cond.code (y_y mr) (y_cc mr) (y_mL mr) (y_rt mr) :: z_G wt
/-- a method's words -/
def y_okM (wt : zTB) (cls : List vw_C) (mr : yMR) : Prop := Jvm.Cond.code (y_y mr) (y_cc mr) (y_mL mr) (y_rt mr) ∈ z_G wt ∧ Jvm.Cond.initialized (y_y mr).cls ∈ z_G wt ∧ plainName (y_y mr).cls = true ∧ ((y_y mr).cls ≠ "java/lang/invoke/MethodHandle" ∧ (y_y mr).cls ≠ "java/lang/invoke/VarHandle") ∧ (y_ci mr < 100 → (Jvm.Cond.instanceMethod (y_y mr) ∈ z_G wt ∧ Jvm.Cond.selects (y_y mr).cls (y_y mr) (y_y mr) ∈ z_G wt) ∧ (y_ci mr = 99 → (y_y mr).cls = "java/lang/String") ∧ (y_ci mr < 99 → ∃ q, cls[y_ci mr]? = some q ∧ q.1 = (y_y mr).cls)) ∧ (100 ≤ y_ci mr → Jvm.Cond.static (y_y mr) ∈ z_G wt)
/-- the tables of this machine: its classes' words, its natives' words, its methods -/
def y_All (wt : zTB) (nw : List Jvm.Cond) (cls : List vw_C) (zty : List (Nat → FieldType)) (zdv : List (List zAV)) (tb : yTb) : Prop :=
  z_CF wt cls zty zdv ∧ (Jvm.Cond.static Lib.Math.max.name ∈ z_G wt ∧ Jvm.Cond.static Lib.Math.min.name ∈ z_G wt ∧ Jvm.Cond.static Lib.Math.abs.name ∈ z_G wt ∧ Jvm.Cond.initialized "java/lang/Math" ∈ z_G wt ∧ Jvm.Cond.code Lib.Math.max.name Lib.Math.max.code 2 (some .int) ∈ z_G wt ∧ Jvm.Cond.code Lib.Math.min.name Lib.Math.min.code 2 (some .int) ∈ z_G wt ∧ Jvm.Cond.code Lib.Math.abs.name Lib.Math.abs.code 1 (some .int) ∈ z_G wt ∧ Jvm.Cond.native arraycopyName ∈ z_G wt ∧ Jvm.Cond.static arraycopyName ∈ z_G wt ∧ Jvm.Cond.initialized "java/lang/System" ∈ z_G wt) ∧ (∀ (n : Nat) (cm : yMR), tb.2.2.2.1[n]? = some cm → y_okM wt cls cm ∧ ∀ x ∈ y_cd cm, y_okE wt nw cls tb cm x = true) ∧ ∀ (n : Nat) (c : yCN), tb.2.2.2.2.1[n]? = some c → y_okM wt cls c.1
/-- what is known of the texts and of whole numbers in statics, outside of A -/
def y_TX (nw : List Jvm.Cond) (b : Nat → Nat) (A : Nat → Prop) (U : State) (H : Heap) : Prop := (∀ (i : Nat) (own : String) (k : Nat) (tx : String), nw[i]? = some (Jvm.Cond.stringRef own k tx) → vk_R own k tx (b (2 * i + 3)) U) ∧ (∀ n ∈ y_txs, ∃ byt : List Int32, vk_S 1 [n / 1000] [byt] (fun _ => b (n % 1000)) (fun _ => b (n % 1000 + 1)) A U H) ∧ (∀ (C n d : String) (x : Int32), Jvm.Cond.eq (.static C n d) (.int x) ∈ nw → va_Z C n d (.int x) A U H) ∧ (∃ g : Nat → Int32, va_T .int (b 2) (b 1) (fun j => .int (g j)) A U H) ∧ ∀ (C n d : String), Jvm.Cond.isRef (.static C n d) ∈ nw → va_Zq C n d A U H
def y_NW (nw : List Jvm.Cond) (b : Nat → Nat) (A : Nat → Prop) (U : State) : Prop := z_NW nw U ∧ y_TX nw b A U U.heap
theorem y_TX_same {nw : List Jvm.Cond} {b : Nat → Nat} {A : Nat → Prop} {u U : State} {H : Heap} (hv : U.vm = u.vm) (h : y_TX nw b A u H) : y_TX nw b A U H := by
  have ha : u.vm.Alike U.vm := by rw [hv]; exact Vm.Alike.refl _
  exact ⟨fun i own k tx q => vk_R.same hv (h.1 i own k tx q), fun n hn => (h.2.1 n hn).imp fun _ z => vk_S.moved ha z, fun C n d x q => va_Z.moved ha (h.2.2.1 C n d x q), h.2.2.2.1.imp fun _ z => va_T.moved ha z, fun C n d q => va_Zq.moved ha (h.2.2.2.2 C n d q)⟩
theorem y_TX_warm {nw : List Jvm.Cond} {b : Nat → Nat} {A B : Nat → Prop} {s U : State} {H : Heap} (hW : s.WarmedH U.vm) (hq : ∀ a : Nat, a < s.heap.size → ¬ A a → H[a]? = s.heap[a]?) (hAB : ∀ q, B q → A q) (h : y_TX nw b A s s.heap) : y_TX nw b B U H := by
  exact ⟨fun i own k tx q => vk_R.warm hW (h.1 i own k tx q), fun n hn => (h.2.1 n hn).imp fun _ z => vk_S.moved hW.alike ((vk_S.kept z hq).narrow hAB), fun C n d x q => va_Z.moved hW.alike (((h.2.2.1 C n d x q).kept hq).narrow hAB), h.2.2.2.1.imp fun _ z => va_T.moved hW.alike ((z.kept hq).narrow hAB), fun C n d q => va_Zq.moved hW.alike (((h.2.2.2.2 C n d q).kept hq).narrow hAB)⟩
theorem y_NW_warm {nw : List Jvm.Cond} {b : Nat → Nat} {A : Nat → Prop} {s U : State} {H : Heap} {locs : List Loc} {cw : va_W} (hW : s.WarmedH U.vm) (hU : U.heap = H) (hS : va_S A s.heap H locs) (hD : va_D A cw) (hA0 : ∀ q, s.heap.size ≤ q → A q) (h : y_NW nw b A s) : y_NW nw b (va_A cw H.size) U := by
  refine ⟨z_NW_warm hW h.1, ?_⟩
  rw [hU]
  refine y_TX_warm hW hS.2.1 (fun q hq => ?_) h.2
  rcases hq with ⟨k, e, hk⟩ | hq
  · exact hD.2 k _ hk
  · exact hA0 q (Nat.le_trans hS.1 hq)
theorem y_NW_call {nw : List Jvm.Cond} {b : Nat → Nat} {A : Nat → Prop} {U V : State} (hv : V.vm = U.vm) (hh : V.heap = U.heap) (h : y_NW nw b A U) : y_NW nw b A V := ⟨z_NW_same hv.symm h.1, by rw [hh]; exact y_TX_same hv h.2⟩
def y_Fix (wt : zTB) (nw : List Jvm.Cond) (b : Nat → Nat) (cls : List vw_C) (tb : yTb) (p : Program) (R : Room) (s : State) (m : MethodId) (args : Array Value) (meth : Method) (c : Code) (A : Nat → Prop) (mr : yMR) : Prop :=
  p.tables.exec = Jvm.exec ∧ c.code = y_cc mr ∧ c.maxLocals = y_mL mr ∧ s.vm.findClass (y_y mr).cls = some m.cls ∧ (∀ x ∈ z_G wt, x.before args s = true) ∧ R = y_rm mr ∧ y_NW nw b A s ∧ (∀ q, s.heap.size ≤ q → A q) ∧ ∀ x ∈ y_cd mr, y_okE wt nw cls tb mr x = true
/-- what may be written and no law speaks of -/
def y_plw (wr : yWr) : yWr := (wr.1.filter (fun q => decide ((q.1 + 1000, q.2) ∉ wr.1)), wr.2.1.filter (fun q => decide (q + 1000 ∉ wr.2.1)), wr.2.2)
/-- from cells at which the law held to these, by what has been written -/
def y_lgr (n0 : Nat) (wr : yWr) (sg : List Int32) (cwB : va_W) : List yLg → va_W → Prop
  | [], cw => y_same n0 wr cwB cw
  | (0, r, j, v) :: t, cw => ∃ (cwm : va_W) (a : Nat) (cA : ClassId) (len : Nat) (f : Nat → Int32) (x y : Int32), y_lgr n0 wr sg cwB t cwm ∧ r < n0 ∧ cwm[r]? = some (a, .inl (cA, len, .inl f)) ∧ y_gi sg j x ∧ x.toNatClampNeg + 2147483648 = z_b x ∧ y_gi sg v y ∧ y_same n0 wr (cwm.set r (a, .inl (cA, len, .inl (upd f x.toNatClampNeg y)))) cw
  | (1, r, j, v) :: t, cw => ∃ (cwm : va_W) (a ci : Nat) (vs : List Value) (fl : Nat) (y : Int32), j = .inl fl ∧ y_lgr n0 wr sg cwB t cwm ∧ r < n0 ∧ cwm[r]? = some (a, .inr (ci, vs)) ∧ y_gi sg v y ∧ y_same n0 wr (cwm.set r (a, .inr (ci, vs.set fl (.int y)))) cw
  | (3, r, j, v) :: t, cw => ∃ (cwm : va_W) (a ci : Nat) (vs : List Value) (fl : Nat) (y : Int32), j = .inl fl ∧ y_lgr n0 wr sg cwB t cwm ∧ r < n0 ∧ cwm[r]? = some (a, .inr (ci, vs)) ∧ y_gi sg v y ∧ vs[fl]? = some (.int y) ∧ y_same n0 wr cwm cw
  | (_, r, j, v) :: t, cw => ∃ (cwm : va_W) (a : Nat) (cA : ClassId) (len : Nat) (f : Nat → Int32) (x : Int32), y_lgr n0 wr sg cwB t cwm ∧ r < n0 ∧ cwm[r]? = some (a, .inl (cA, len, .inl f)) ∧ y_gi sg j x ∧ x.toNatClampNeg + 2147483648 = z_b x ∧ y_gi sg v (f x.toNatClampNeg) ∧ y_same n0 wr cwm cw
def y_KL (tb : yTb) (K : va_W → Prop) (sg : List Int32) (lg : List yLg) (cw : va_W) : Prop := ∃ cwB, K cwB ∧ y_lgr tb.1.length (y_plw tb.2.2.2.2.2) sg cwB lg cw
theorem y_lgr_same {n0 : Nat} {wr : yWr} {sg : List Int32} {cwB cw cw' : va_W} {lg : List yLg} (h : y_lgr n0 wr sg cwB lg cw) (hs : y_same n0 wr cw cw') : y_lgr n0 wr sg cwB lg cw' := by
  match lg, h with
  | [], h => exact y_same_trans h hs
  | (0, r, j, v) :: t, ⟨cwm, a, cA, len, f, x, y, h1, h2, h3, h4, h5, h6, h7⟩ => exact ⟨cwm, a, cA, len, f, x, y, h1, h2, h3, h4, h5, h6, y_same_trans h7 hs⟩
  | (1, r, j, v) :: t, ⟨cwm, a, ci, vs, fl, y, h1, h2, h3, h4, h5, h6⟩ => exact ⟨cwm, a, ci, vs, fl, y, h1, h2, h3, h4, h5, y_same_trans h6 hs⟩
  | (2, r, j, v) :: t, ⟨cwm, a, cA, len, f, x, h1, h2, h3, h4, h5, h6, h7⟩ => exact ⟨cwm, a, cA, len, f, x, h1, h2, h3, h4, h5, h6, y_same_trans h7 hs⟩
  | (3, r, j, v) :: t, ⟨cwm, a, ci, vs, fl, y, h1, h2, h3, h4, h5, h6, h7⟩ => exact ⟨cwm, a, ci, vs, fl, y, h1, h2, h3, h4, h5, h6, y_same_trans h7 hs⟩
  | (_ + 4, r, j, v) :: t, ⟨cwm, a, cA, len, f, x, h1, h2, h3, h4, h5, h6, h7⟩ => exact ⟨cwm, a, cA, len, f, x, h1, h2, h3, h4, h5, h6, y_same_trans h7 hs⟩
theorem y_lgr_mono {n0 : Nat} {wr : yWr} {sg sg' : List Int32} {cwB : va_W} (hm : y_le sg sg') : ∀ {lg : List yLg} {cw : va_W}, y_lgr n0 wr sg cwB lg cw → y_lgr n0 wr sg' cwB lg cw
  | [], _, h => h
  | (0, r, j, v) :: t, _, ⟨cwm, a, cA, len, f, x, y, h1, h2, h3, h4, h5, h6, h7⟩ => ⟨cwm, a, cA, len, f, x, y, y_lgr_mono hm h1, h2, h3, y_gi_mono hm h4, h5, y_gi_mono hm h6, h7⟩
  | (1, r, j, v) :: t, _, ⟨cwm, a, ci, vs, fl, y, h1, h2, h3, h4, h5, h6⟩ => ⟨cwm, a, ci, vs, fl, y, h1, y_lgr_mono hm h2, h3, h4, y_gi_mono hm h5, h6⟩
  | (2, r, j, v) :: t, _, ⟨cwm, a, cA, len, f, x, h1, h2, h3, h4, h5, h6, h7⟩ => ⟨cwm, a, cA, len, f, x, y_lgr_mono hm h1, h2, h3, y_gi_mono hm h4, h5, y_gi_mono hm h6, h7⟩
  | (3, r, j, v) :: t, _, ⟨cwm, a, ci, vs, fl, y, h1, h2, h3, h4, h5, h6, h7⟩ => ⟨cwm, a, ci, vs, fl, y, h1, y_lgr_mono hm h2, h3, h4, y_gi_mono hm h5, h6, h7⟩
  | (_ + 4, r, j, v) :: t, _, ⟨cwm, a, cA, len, f, x, h1, h2, h3, h4, h5, h6, h7⟩ => ⟨cwm, a, cA, len, f, x, y_lgr_mono hm h1, h2, h3, y_gi_mono hm h4, h5, y_gi_mono hm h6, h7⟩
theorem y_KL_mono {tb : yTb} {K : va_W → Prop} {ρ ρ' : yRo} {lg : List yLg} {cw : va_W} (hm : y_rle ρ ρ') (h : y_KL tb K (y_sg ρ) lg cw) : y_KL tb K (y_sg ρ') lg cw := h.imp fun _ z => ⟨z.1, y_lgr_mono hm.1 z.2⟩
theorem y_KL_same {tb : yTb} {K : va_W → Prop} {sg : List Int32} {lg : List yLg} {cw cw' : va_W} (h : y_KL tb K sg lg cw) (hs : y_same tb.1.length (y_plw tb.2.2.2.2.2) cw cw') : y_KL tb K sg lg cw' := h.imp fun _ z => ⟨z.1, y_lgr_same z.2 hs⟩
theorem y_KL_of {tb : yTb} {K : va_W → Prop} {sg : List Int32} {cw : va_W} (h : K cw) : y_KL tb K sg [] cw := ⟨cw, h, y_same_refl _ _ _⟩
def y_Kst (tb : yTb) (K : va_W → Prop) : Prop := ∀ cw cw', y_same tb.1.length (y_plw tb.2.2.2.2.2) cw cw' → K cw → K cw'
theorem y_KL_nil {tb : yTb} {K : va_W → Prop} {sg : List Int32} {lg : List yLg} {cw : va_W} (hKs : y_Kst tb K) (he : y_eml lg = true) (h : y_KL tb K sg lg cw) : K cw := by
  cases lg with
  | nil => obtain ⟨cwB, h1, h2⟩ := h; exact hKs _ _ h2 h1
  | cons _ _ => cases he
/-- what holds of heap and signs; cw0: as the method found it; K: what is kept beside the shapes -/
def y_St (cls : List vw_C) (D : va_G) (K : va_W → Prop) (tb : yTb) (b : Nat → Nat) (s : State) (A : Nat → Prop) (cw0 : va_W) (ρ : yRo) (H : Heap) (locs : List Loc) (cw : va_W) (tys : List (ClassId × FieldType)) (n : Nat) (env : yEnv) (h : yHp) : Prop :=
  va_K D cls tys s ∧ va_P D cls cw H ∧ va_D A cw ∧ va_S A s.heap H locs ∧ y_ad ρ = cw.map Prod.fst ∧ y_WT tb cls tys (y_tg ρ) cw ∧ y_KL tb K (y_sg ρ) h.2.2.2 cw ∧ y_same tb.1.length tb.2.2.2.2.2 cw0 cw ∧ y_erel (y_sg ρ) env ∧ y_rrel (y_sg ρ) h.1 ∧ y_fxr tb ρ b cw h.2.1 ∧ y_axr tb ρ b cw h.2.2.1 ∧ (y_sg ρ).length = n ∧ (∀ i, n ≤ i → y_ps ρ i = none) ∧ ∀ i p, y_ps ρ i = some p → tb.1.length ≤ p
def y_Fr (tb : yTb) (ρ : yRo) (b : Nat → Nat) (nL : Nat) (ls : Array Slot) (lo : yLo) (st : List yV) (cst : List Value) : Prop := (∃ lv, lv_has ls nL lv ∧ y_LR (y_g tb ρ b) lo lv) ∧ y_SR (y_g tb ρ b) st cst
def y_ret (tb : yTb) (ρ : yRo) (b : Nat → Nat) (mr : yMR) (pc : Nat) (r : Option yV) (cst : List Value) : Prop :=
  (r = none ∧ cst = [] ∧ y_rt mr = none ∧ decode (y_cc mr) pc = .ok (.return_, 1)) ∨
  (∃ a x ty, r = some a ∧ cst = [.int x] ∧ y_g tb ρ b a (.int x) ∧ y_rt mr = some ty ∧ narrow ty (.int x) = .int x ∧ decode (y_cc mr) pc = .ok (.ireturn, 1)) ∨
  (∃ a v ty, r = some a ∧ cst = [v] ∧ y_g tb ρ b a v ∧ (v = .null ∨ ∃ q, v = .ref q) ∧ y_rt mr = some ty ∧ ((∃ n, ty = .object n) ∨ ∃ t, ty = .array t) ∧ decode (y_cc mr) pc = .ok (.areturn, 1)) ∨
  (∃ a x, r = some a ∧ cst = [.long x] ∧ y_g tb ρ b a (.long x) ∧ y_rt mr = some .long ∧ decode (y_cc mr) pc = .ok (.lreturn, 1))
def y_End (cls : List vw_C) (l : Launch) (D : va_G) (K : va_W → Prop) (tb : yTb) (b : Nat → Nat) (p : Program) (e : Env) (R : Room) (s : State) (m : MethodId) (args : Array Value) (below : List Frame) (meth : Method) (c : Code) (A : Nat → Prop) (cw0 : va_W) (ρ0 : yRo) (ce sl : Nat) (mr : yMR) (Q : State → Prop) (k : yK) : Prop :=
  ∀ (ρ : yRo) (H : Heap) (locs : List Loc) (cw : va_W) (tys : List (ClassId × FieldType)) (ls : Array Slot) (cst : List Value) (pc n : Nat) (env : yEnv) (h : yHp) (r : Option yV), y_rle ρ0 ρ → y_St cls D K tb b s A cw0 ρ H locs cw tys n env h → k n env h r = true → y_ret tb ρ b mr pc r cst → W p l e R s m args below meth c H locs ce sl Q (F0 m pc ls cst)
def y_Stop (cls : List vw_C) (l : Launch) (D : va_G) (K : va_W → Prop) (tb : yTb) (b : Nat → Nat) (p : Program) (e : Env) (R : Room) (s : State) (m : MethodId) (args : Array Value) (below : List Frame) (meth : Method) (c : Code) (A : Nat → Prop) (cw0 : va_W) (ρ0 : yRo) (ce sl : Nat) (mr : yMR) (Q : State → Prop) (sp : yS) : Prop :=
  ∀ (ρ : yRo) (H : Heap) (locs : List Loc) (cw : va_W) (tys : List (ClassId × FieldType)) (ls : Array Slot) (cst : List Value) (pc : Nat) (lo : yLo) (st : List yV) (n : Nat) (env : yEnv) (h : yHp), y_rle ρ0 ρ → y_St cls D K tb b s A cw0 ρ H locs cw tys n env h → y_Fr tb ρ b (y_mL mr) ls lo st cst → sp pc lo st n env h = true → W p l e R s m args below meth c H locs ce sl Q (F0 m pc ls cst)
/-- a place's hints are true -/
def y_Hint (cls : List vw_C) (K : va_W → Prop) (hn : yHn) (tb : yTb) (b : Nat → Nat) : Prop :=
  ∀ (fl : Nat) (lo : yLo) (st : List yV) (n : Nat) (env : yEnv) (h : yHp) (k : Nat → yEnv → yHp → Bool) (ρ : yRo) (cw : va_W) (tys : List (ClassId × FieldType)) (cst : List Value) (lv : List (Nat × Value)), y_KL tb K (y_sg ρ) h.2.2.2 cw → y_ad ρ = cw.map Prod.fst → y_WT tb cls tys (y_tg ρ) cw → y_erel (y_sg ρ) env → y_rrel (y_sg ρ) h.1 → y_fxr tb ρ b cw h.2.1 → y_axr tb ρ b cw h.2.2.1 → (y_sg ρ).length = n → (∀ i, n ≤ i → y_ps ρ i = none) → (∀ i p, y_ps ρ i = some p → tb.1.length ≤ p) → y_LR (y_g tb ρ b) lo lv → y_SR (y_g tb ρ b) st cst → hn fl lo st n env h k = true →
    ∃ ρ' n' env' h', y_rle ρ ρ' ∧ y_ad ρ' = y_ad ρ ∧ y_tg ρ' = y_tg ρ ∧ (y_sg ρ').length = n' ∧ ((∀ i, n' ≤ i → y_ps ρ' i = none) ∧ ∀ i p, y_ps ρ' i = some p → tb.1.length ≤ p) ∧ y_erel (y_sg ρ') env' ∧ y_rrel (y_sg ρ') h'.1 ∧ y_fxr tb ρ' b cw h'.2.1 ∧ y_axr tb ρ' b cw h'.2.2.1 ∧ y_KL tb K (y_sg ρ') h'.2.2.2 cw ∧ k n' env' h' = true
-- contracts
def y_Pc (nw : List Jvm.Cond) (b : Nat → Nat) (cls : List vw_C) (D : va_G) (cw : va_W) (tys : List (ClassId × FieldType)) (sz : Nat) (av : List Value) : Array Value → State → Prop := va_Pc av (fun U => U.heap.size = sz ∧ va_P D cls cw U.heap ∧ va_K D cls tys U ∧ va_D (fun _ => True) cw ∧ y_NW nw b (va_A cw sz) U)
def y_facts (n0 : Nat) (cw : va_W) (ps : yPre) : Prop := ∀ q ∈ ps, q.1 < n0 ∧ ∃ a ci vs x, cw[q.1]? = some (a, .inr (ci, vs)) ∧ vs[q.2.1]? = some (.int x) ∧ y_in q.2.2 (z_b x)
/-- a call's end: X says what of its cells and its answer -/
def y_Q (cls : List vw_C) (D : va_G) (X : va_W → List (ClassId × FieldType) → Option Value → Prop) (cw : va_W) (sz : Nat) : Array Value → State → Outcome → State → Prop := fun _ st oc t =>
  (∃ (cw' : va_W) (tys' : List (ClassId × FieldType)) (rv : Option Value), oc = .returned rv ∧ va_P D cls cw' t.heap ∧ va_K D cls tys' t ∧ va_D (va_A cw sz) cw' ∧ X cw' tys' rv) ∧ va_F (va_A cw sz) st t
def y_tro (f : yT → Value → Prop) : Option yT → Option Value → Prop
  | none, none => True
  | some ty, some v => f ty v
  | _, _ => False
-- what places are
def y_prw (n0 : Nat) (cw : va_W) : List Nat → Int32 → Int32 → Prop
  | [], x, y => y = x
  | r :: rs, x, y => ∃ (a : Nat) (cA : ClassId) (len : Nat) (f : Nat → Int32), r < n0 ∧ cw[r]? = some (a, .inl (cA, len, .inl f)) ∧ x.toNatClampNeg + 2147483648 = z_b x ∧ y_prw n0 cw rs (f x.toNatClampNeg) y
def y_pb (n0 : Nat) (gs : List Int32) (lv : List (Nat × Value)) (cw : va_W) (pl : yPl) (x : Int32) : Prop := match pl.1 with
  | 0 => lv.lookup pl.2.1 = some (.int x)
  | 1 => pl.2.1 < n0 ∧ ∃ (a ci : Nat) (vs : List Value), cw[pl.2.1]? = some (a, .inr (ci, vs)) ∧ vs[pl.2.2.1]? = some (.int x)
  | 2 => x = nI pl.2.1
  | _ => gs[pl.2.1]? = some x
def y_pls (n0 : Nat) (gs : List Int32) (lv : List (Nat × Value)) (cw : va_W) (pl : yPl) (x : Int32) : Prop := ∃ z, y_pb n0 gs lv cw pl z ∧ y_prw n0 cw pl.2.2.2 z x
def y_AI (n0 : Nat) (lv : List (Nat × Value)) (cw : va_W) : List Int32 → List yIt → Prop
  | _, [] => True
  | gs, .inl e :: is => ∃ x y, y_pls n0 gs lv cw e.1 x ∧ y_prw n0 cw [e.2.1] x y ∧ y_in e.2.2 (z_b y) ∧ y_AI n0 lv cw (gs ++ [y]) is
  | gs, .inr e :: is => ∃ x y, y_pls n0 gs lv cw e.2.1 x ∧ y_pls n0 gs lv cw e.2.2.1 y ∧ y_in e.2.2.2 (z_b (y_op e.1 x y)) ∧ y_AI n0 lv cw (gs ++ [y_op e.1 x y]) is
def y_Ann (n0 : Nat) (f : yT → Value → Prop) (gs : List Int32) (lv : List (Nat × Value)) (cw : va_W) (an : yAn) : Prop := (∀ q ∈ an.1, ∃ v, lv.lookup q.1 = some v ∧ f q.2 v) ∧ y_facts n0 cw an.2.1 ∧ y_AI n0 lv cw gs an.2.2
def y_GS (f : yPl → Int32 → Prop) : List yPl → List Int32 → Prop
  | [], [] => True
  | g :: gs, x :: xs => f g x ∧ y_GS f gs xs
  | _, _ => False
def y_olv : Option Value → List (Nat × Value)
  | none => []
  | some v => [(100, v)]
def y_XC (cls : List vw_C) (K : va_W → Prop) (tb : yTb) (c : yCN) (gs : List Int32) (cw : va_W) (tg : List yC) : va_W → List (ClassId × FieldType) → Option Value → Prop := fun cw' tys' rv =>
  ∃ (tg' : List yC) (o : yOut), o ∈ c.2.2.2.1 ∧ y_tro (y_tv tb (cw'.map Prod.fst) tg') o.1 rv ∧ y_facts tb.1.length cw' o.2.1 ∧ y_AI tb.1.length (y_olv rv) cw' gs o.2.2 ∧ (∀ (p : Nat) (t : yC), tg[p]? = some t → tg'[p]? = some t) ∧ y_same tb.1.length c.2.2.2.2 cw cw' ∧ y_WT tb cls tys' tg' cw' ∧ K cw'
def y_Con (wt : zTB) (nw : List Jvm.Cond) (cls : List vw_C) (l : Launch) (D : va_G) (K : va_W → Prop) (tb : yTb) (c : yCN) : Prop :=
  ∀ (b : Nat → Nat) (cw : va_W) (tys : List (ClassId × FieldType)) (tg : List yC) (sz : Nat) (av : List Value) (gs : List Int32), (lg_sl av).length ≤ y_mL c.1 → y_Ann tb.1.length (y_tv tb (cw.map Prod.fst) tg) [] (lv_args 0 av) cw c.2.1 → y_GS (y_pls tb.1.length [] (lv_args 0 av) cw) c.2.2.1 gs → y_WT tb cls tys tg cw → K cw → Met l (y_y c.1) (y_ws wt c.1) (y_rm c.1) (y_Pc nw b cls D cw tys sz av) (y_Q cls D (y_XC cls K tb c gs cw tg) cw sz) 0 0 (va_A cw sz)
def y_Snd (wt : zTB) (nw : List Jvm.Cond) (cls : List vw_C) (hn : yHn) (tb : yTb) (l : Launch) (D : va_G) (K : va_W → Prop) (b : Nat → Nat) (F fu : Nat) : Prop :=
  ∀ (p : Program) (e : Env) (R : Room) (s : State) (m : MethodId) (args : Array Value) (below : List Frame) (meth : Method) (c : Code) (A : Nat → Prop) (cw0 : va_W) (ρ0 : yRo) (ce sl : Nat) (sp : yS) (mr : yMR) (Q : State → Prop), y_Fix wt nw b cls tb p R s m args meth c A mr → (y_rm mr).frames ≤ F → ce ≤ R.cells → sl ≤ R.slots → ∀ (k : yK), y_End cls l D K tb b p e R s m args below meth c A cw0 ρ0 ce sl mr Q k → y_Stop cls l D K tb b p e R s m args below meth c A cw0 ρ0 ce sl mr Q sp →
  ∀ (ρ : yRo) (H : Heap) (locs : List Loc) (cw : va_W) (tys : List (ClassId × FieldType)) (ls : Array Slot) (cst : List Value) (cd : List yEnt) (pc : Nat) (lo : yLo) (st : List yV) (n : Nat) (env : yEnv) (h : yHp), (∀ x ∈ cd, ∃ y ∈ y_cd mr, (x.1, x.2.1, x.2.2.1, x.2.2.2.1, x.2.2.2.2.1) = (y.1, y.2.1, y.2.2.1, y.2.2.2.1, y.2.2.2.2.1)) → y_rle ρ0 ρ → y_St cls D K tb b s A cw0 ρ H locs cw tys n env h → y_Fr tb ρ b (y_mL mr) ls lo st cst →
    y_ev hn tb fu sp mr cd pc lo st n env h k = true → W p l e R s m args below meth c H locs ce sl Q (F0 m pc ls cst)
