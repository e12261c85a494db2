-- the tables' facts, all together
def z_cv : zAV → Value
  | .inl u => .int (nI u)
  | .inr (.inr (.inl none)) => .null
  | _ => .long 0
def z_cvo : zAV → Bool
  | .inl _ => true
  | .inr (.inr (.inl none)) => true
  | .inr (.inr (.inr 1)) => true
  | _ => false
theorem z_cv_ok {sg : Nat → Int32} {ad : List Nat} {b : Nat} {a : zAV} (h : z_cvo a = true) : z_g sg ad b a (z_cv a) := by
  match a, h with
  | .inl _, _ => exact rfl
  | .inr (.inr (.inl none)), _ => exact rfl
  | .inr (.inr (.inr 1)), _ => exact ⟨0, rfl⟩
  | .inr (.inl _), h => cases h
  | .inr (.inr (.inl (some _))), h => cases h
  | .inr (.inr (.inr 0)), h => cases h
  | .inr (.inr (.inr (_ + 2))), h => cases h
theorem z_cv_all {sg : Nat → Int32} {ad : List Nat} {b : Nat} : ∀ {dv : List zAV}, dv.all z_cvo = true → z_SR (z_g sg ad b) dv (dv.map z_cv)
  | [], _ => trivial
  | a :: dv, h => by
    rw [List.all_cons] at h
    exact ⟨z_cv_ok (z_and h).1, z_cv_all (z_and h).2⟩
def z_CF (tb : zTB) (cls : List vw_C) (zty : List (Nat → FieldType)) (zdv : List (List zAV)) : Prop := ∀ (ci : Nat) (c : vw_C), cls[ci]? = some c → (∀ x ∈ u_ws c.1 c.2.1 c.2.2, x ∈ z_G tb) ∧ (∀ a, a < c.2.2 → ∀ b, b < c.2.2 → a ≠ b → (c.2.1 a).2.1 ≠ (c.2.1 b).2.1) ∧ Jvm.Cond.instantiable c.1 c.2.2 ∈ z_G tb ∧ Jvm.Cond.initialized c.1 ∈ z_G tb ∧ ∃ (ty : Nat → FieldType) (dv : List zAV), zty[ci]? = some ty ∧ zdv[ci]? = some dv ∧ (∀ k, k < c.2.2 → parseFieldDescriptor (c.2.1 k).2.2.1 = some (ty k)) ∧ dv.all z_cvo = true ∧ ∀ j, j < c.2.2 → defaultValue (ty j) = vp_V (dv.map z_cv) j
def z_All (tb : zTB) (nw : List Jvm.Cond) (cls : List vw_C) (zty : List (Nat → FieldType)) (zdv : List (List zAV)) (ms : List zMR) : Prop :=
  z_CF tb cls zty zdv ∧ (Jvm.Cond.arrayClass .int ∈ z_G tb ∧ Jvm.Cond.arrayClass .byte ∈ z_G tb ∧ Jvm.Cond.arrayClass .boolean ∈ z_G tb ∧ Jvm.Cond.arrayClass .long ∈ z_G tb) ∧ (Jvm.Cond.instanceMethod objectInit ∈ z_G tb ∧ Jvm.Cond.code objectInit ⟨#[0xb1]⟩ 1 none ∈ z_G tb) ∧ ∀ (n : Nat) (cm : zMR), ms[n]? = some cm → ((∃ p1 p2 p3 p4, z_okM tb cls cm p1 p2 p3 p4 = true) ∧ Jvm.Cond.code (z_y cm) (z_cc cm) (z_mL cm) (z_rt cm) ∈ z_G tb) ∧ ∀ x ∈ z_cd cm, z_okE tb nw cls ms cm x = true
def z_sOK (n b : Nat) (sg : Nat → Int32) (s : State) (A : Nat → Prop) : Prop := ∀ L, n = L + 1 → va_X b L sg s s.heap ∧ b < s.heap.size ∧ ¬ A b
def z_Fix (tb : zTB) (nw : List Jvm.Cond) (cls : List vw_C) (ms : List zMR) (sg : Nat → Int32) (b : Nat) (p : Program) (R : Room) (s : State) (m : MethodId) (args : Array Value) (meth : Method) (c : Code) (A : Nat → Prop) (lx : zLX) (mr : zMR) : Prop :=
  p.tables.exec = Jvm.exec ∧ c.code = z_cc mr ∧ c.maxLocals = z_mL mr ∧ s.vm.findClass (z_y mr).cls = some m.cls ∧ (∀ x ∈ z_G tb, x.before args s = true) ∧ ((z_y mr).name = "<init>" → meth.name = "<init>") ∧ R = z_rm mr ∧ z_NW nw s ∧ (∀ q, s.heap.size ≤ q → A q) ∧ (∀ x ∈ z_cd mr, z_okE tb nw cls ms mr x = true) ∧ z_sOK lx.1 b sg s A
def z_St (cls : List vw_C) (D : va_G) (sg : Nat → Int32) (b : Nat) (s : State) (A : Nat → Prop) (ad0 : List Nat) (H : Heap) (locs : List Loc) (w : List zAE) (env : zEnv) (cw : va_W) (tys : List (ClassId × FieldType)) : Prop :=
  va_K D cls tys s ∧ va_P D cls cw H ∧ va_D A cw ∧ va_S A s.heap H locs ∧ z_WR cls (z_g sg (cw.map Prod.fst) b) tys w cw ∧ z_erel sg env ∧ z_le ad0 (cw.map Prod.fst)
def z_Fr (sg : Nat → Int32) (b : Nat) (cw : va_W) (nL : Nat) (ls : Array Slot) (lo : List (Nat × zAV)) (st : List zAV) (cst : List Value) : Prop :=
  (∃ lv, lv_has ls nL lv ∧ z_LR (z_g sg (cw.map Prod.fst) b) lo lv) ∧ z_SR (z_g sg (cw.map Prod.fst) b) st cst
/-- a method's end -/
def z_ret (sg : Nat → Int32) (b : Nat) (mr : zMR) (cw : va_W) (pc : Nat) (r : Option zAV) (cst : List Value) : Prop :=
  (r = none ∧ cst = [] ∧ z_rt mr = none ∧ decode (z_cc mr) pc = .ok (.return_, 1)) ∨
  (∃ a x ty, r = some a ∧ cst = [.int x] ∧ z_g sg (cw.map Prod.fst) b a (.int x) ∧ z_rt mr = some ty ∧ narrow ty (.int x) = .int x ∧ decode (z_cc mr) pc = .ok (.ireturn, 1)) ∨
  (∃ a v ty, r = some a ∧ cst = [v] ∧ z_g sg (cw.map Prod.fst) b a v ∧ (v = .null ∨ ∃ q, v = .ref q) ∧ z_rt mr = some ty ∧ ((∃ n, ty = .object n) ∨ ∃ t, ty = .array t) ∧ decode (z_cc mr) pc = .ok (.areturn, 1))
def z_End (cls : List vw_C) (l : Launch) (D : va_G) (sg : Nat → Int32) (b : Nat) (p : Program) (e : Env) (R : Room) (s : State) (m : MethodId) (args : Array Value) (below : List Frame) (meth : Method) (c : Code) (A : Nat → Prop) (ad0 : List Nat) (mr : zMR) (Q : State → Prop) (k : zK) : Prop :=
  ∀ (H : Heap) (locs : List Loc) (cw : va_W) (tys : List (ClassId × FieldType)) (ls : Array Slot) (cst : List Value) (pc ce sl : Nat) (env : zEnv) (w : List zAE) (r : Option zAV), z_St cls D sg b s A ad0 H locs w env cw tys → ce ≤ (z_rm mr).cells → sl ≤ (z_rm mr).slots → k env r w = true → z_ret sg b mr cw pc r cst → W p l e R s m args below meth c H locs ce sl Q (F0 m pc ls cst)
def z_Stop (cls : List vw_C) (l : Launch) (D : va_G) (sg : Nat → Int32) (b : Nat) (p : Program) (e : Env) (R : Room) (s : State) (m : MethodId) (args : Array Value) (below : List Frame) (meth : Method) (c : Code) (A : Nat → Prop) (ad0 : List Nat) (lx : zLX) (mr : zMR) (Q : State → Prop) : Prop :=
  ∀ (H : Heap) (locs : List Loc) (cw : va_W) (tys : List (ClassId × FieldType)) (ls : Array Slot) (cst : List Value) (pc : Nat) (lo : List (Nat × zAV)) (st : List zAV) (ce sl : Nat) (env : zEnv) (w : List zAE), z_St cls D sg b s A ad0 H locs w env cw tys → z_Fr sg b cw (z_mL mr) ls lo st cst → ce ≤ (z_rm mr).cells → sl ≤ (z_rm mr).slots → lx.2 pc lo st ce sl env w = true → W p l e R s m args below meth c H locs ce sl Q (F0 m pc ls cst)
def z_Snd (tb : zTB) (nw : List Jvm.Cond) (cls : List vw_C) (zty : List (Nat → FieldType)) (zdv : List (List zAV)) (ms : List zMR) (l : Launch) (D : va_G) (sg : Nat → Int32) (b : Nat) (n : Nat) : Prop :=
  ∀ (p : Program) (e : Env) (R : Room) (s : State) (m : MethodId) (args : Array Value) (below : List Frame) (meth : Method) (c : Code) (A : Nat → Prop) (ad0 : List Nat) (lx : zLX) (mr : zMR) (Q : State → Prop), z_Fix tb nw cls ms sg b p R s m args meth c A lx mr → ∀ (k : zK), z_End cls l D sg b p e R s m args below meth c A ad0 mr Q k → z_Stop cls l D sg b p e R s m args below meth c A ad0 lx mr Q →
  ∀ (H : Heap) (locs : List Loc) (cw : va_W) (tys : List (ClassId × FieldType)) (ls : Array Slot) (cst : List Value) (cd : List zEnt) (pc : Nat) (lo : List (Nat × zAV)) (st : List zAV) (ce sl : Nat) (env : zEnv) (w : List zAE), (∀ x ∈ cd, x ∈ z_cd mr) → z_St cls D sg b s A ad0 H locs w env cw tys → z_Fr sg b cw (z_mL mr) ls lo st cst → ce ≤ (z_rm mr).cells → sl ≤ (z_rm mr).slots →
    z_ev cls zty zdv ms n lx mr cd pc lo st ce sl env w k = true → W p l e R s m args below meth c H locs ce sl Q (F0 m pc ls cst)
-- a call's end, in these words
def z_RV (g : zAV → Value → Prop) : Option zAV → Option Value → Prop
  | none, none => True
  | some a, some v => g a v
  | _, _ => False
def z_Q (cls : List vw_C) (D : va_G) (sg : Nat → Int32) (b : Nat) (cw : va_W) (sz : Nat) (k : zK) : Array Value → State → Outcome → State → Prop := fun _ st oc t =>
  (∃ (env : zEnv) (r : Option zAV) (w : List zAE) (cw' : va_W) (tys' : List (ClassId × FieldType)) (rv : Option Value), oc = .returned rv ∧ k env r w = true ∧ z_RV (z_g sg (cw'.map Prod.fst) b) r rv ∧ z_erel sg env ∧ z_le (cw.map Prod.fst) (cw'.map Prod.fst) ∧ va_P D cls cw' t.heap ∧ va_K D cls tys' t ∧ va_D (va_A cw sz) cw' ∧ z_WR cls (z_g sg (cw'.map Prod.fst) b) tys' w cw') ∧ va_F (va_A cw sz) st t
def z_Pc (nw : List Jvm.Cond) (cls : List vw_C) (D : va_G) (cw : va_W) (tys : List (ClassId × FieldType)) (sz : Nat) (av : List Value) : Array Value → State → Prop := va_Pc av (fun U => U.heap.size = sz ∧ va_P D cls cw U.heap ∧ va_K D cls tys U ∧ va_D (fun _ => True) cw ∧ z_NW nw U)
theorem z_arg_c1 {sg : Nat → Int32} {ad : List Nat} {b : Nat} (a : zAV) (v : Value) (h : z_arg a = true) (hg : z_g sg ad b a v) : v.category = 1 := by
  unfold z_arg at h
  rw [Bool.or_eq_true] at h
  rcases h with h | h
  · obtain ⟨x, rfl⟩ := z_isI_ok h hg
    rfl
  · rcases z_isO_ok h hg with rfl | ⟨q, rfl⟩ <;> rfl
set_option maxHeartbeats 4000000 in
theorem z_met {tb : zTB} {nw : List Jvm.Cond} {cls : List vw_C} {zty : List (Nat → FieldType)} {zdv : List (List zAV)} {ms : List zMR} {l : Launch} {D : va_G} {sg : Nat → Int32} {b n : Nat} (hA : z_All tb nw cls zty zdv ms) (hS : z_Snd tb nw cls zty zdv ms l D sg b n)
    {x1 : Nat} {cm : zMR} (hcm : ms[x1]? = some cm) {cw : va_W} {tys : List (ClassId × FieldType)} {sz : Nat} {as : List zAV} {av : List Value} {env : zEnv} {w : List zAE} {k : zK} (hargs : z_all z_arg as = true) (hsr : z_SR (z_g sg (cw.map Prod.fst) b) as av) (hlen : as.length ≤ z_mL cm) (he : z_erel sg env) (hw : z_WR cls (z_g sg (cw.map Prod.fst) b) tys w cw)
    (hev : z_ev cls zty zdv ms n z_l0 cm (z_cd cm) 0 (z_en as 0) [] 0 0 env w k = true) :
    Met l (z_y cm) (z_ws tb cm) (z_rm cm) (z_Pc nw cls D cw tys sz av) (z_Q cls D sg b cw sz k) (z_rm cm).cells (z_rm cm).slots (va_A cw sz) := by
  obtain ⟨⟨⟨p1, p2, p3, p4, hok⟩, hcw⟩, hcode⟩ := hA.2.2.2 x1 cm hcm
  have hpl : plainName (z_y cm).cls = true := (z_and (z_and (z_and hok).1).2).1
  refine Met.ofW (cc := z_cc cm) (maxL := z_mL cm) (ret := z_rt cm) hpl rfl ?_
  intro p e s m args below meth c s₁ B hml hv
  obtain ⟨rfl, hsz, hP, hK, hD0, hN⟩ := hv
  subst hsz
  have hD := hD0.self (sz := s.heap.size)
  have hts := atoms_spec (ws := z_ws tb cm) B.pre
  obtain ⟨hl1, hl2⟩ := z_en_ok (g := z_g sg (cw.map Prod.fst) b) z_arg_c1 0 hargs hsr
  have hl := lv_entry av (n := z_mL cm) (by rw [hl2, ← z_SR_len hsr]; exact hlen)
  rw [lg_entry_eq]
  refine hS p e _ s m av.toArray below meth c (va_A cw s.heap.size) (cw.map Prod.fst) z_l0 cm (MQ below (z_Q cls D sg b cw s.heap.size k) av.toArray s (z_rm cm).cells (z_rm cm).slots (va_A cw s.heap.size))
    ⟨B.exec, B.bytes, hml, findClass_of_methodNamed B.named, fun x hx => hts x (List.mem_cons_of_mem _ hx), fun hi => by rw [(name_of_methodNamed B.named B.method).1]; exact hi, rfl, hN, fun q h => Or.inr h, hcode, fun L h => by cases h⟩ k ?_ (fun H locs cw tys ls cst pc lo st ce sl env w _ _ _ _ h => by cases h)
    s.heap [] cw tys _ [] (z_cd cm) 0 (z_en as 0) [] 0 0 env w (fun x h => h) ⟨hK, hP, hD, va_S.rf, hw, he, fun _ _ h => h⟩ ⟨⟨_, hl, hl1⟩, trivial⟩ (Nat.zero_le _) (Nat.zero_le _) hev
  intro H locs cw1 tys1 ls cst pc ce sl env1 w1 r hSt hce hsl hk hret
  obtain ⟨hK1, hP1, hD1, hS1, hw1, he1, hle1⟩ := hSt
  refine W.widen hce hsl ?_
  have hlocks := B.notSynchronized
  rcases hret with ⟨rfl, rfl, h3, h4⟩ | ⟨a, x, ty, rfl, rfl, h3, h4, h5, h6⟩ | ⟨a, v, ty, rfl, rfl, h3, h4, h5, h6, h7⟩
  · exact W.vret B.exec B.bytes (by rw [B.returns]; exact h3) (fun t ht hW => ⟨⟨env1, none, w1, cw1, tys1, none, rfl, hk, trivial, he1, hle1, by rw [ht]; exact hP1, va_K.moved hW.alike hK1, hD1, hw1⟩, hS1.F ht⟩) hS1.2.2 h4
  · exact W.zret B.exec B.bytes (by rw [B.returns]; exact h4) h5 (fun t ht hW => ⟨⟨env1, some a, w1, cw1, tys1, some (.int x), rfl, hk, h3, he1, hle1, by rw [ht]; exact hP1, va_K.moved hW.alike hK1, hD1, hw1⟩, hS1.F ht⟩) hS1.2.2 h6
  · exact W.aret B.exec B.bytes (by rw [B.returns]; exact h5) h6 h4 (fun t ht hW => ⟨⟨env1, some a, w1, cw1, tys1, some v, rfl, hk, h3, he1, hle1, by rw [ht]; exact hP1, va_K.moved hW.alike hK1, hD1, hw1⟩, hS1.F ht⟩) hS1.2.2 h7
