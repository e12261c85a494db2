/-! THE CLAIM OUT OF ONE WALK OF THE LAW'S BODY. Your part is whole_start (and what it stands on); all else here is the same for every law, but numbers. -/
def R_law : String := "RailwayHouseLaw"
def lw_P (b : Addr) (xs : List Int32) (args : Array Value) (s : State) : Prop := args = #[.ref b] ∧ s.IntsAt b xs ∧ xs.length ≤ 3072 ∧ (Jvm.Cond.and given_1 narrow_1).before args s = true
def lw_Q (_ : Array Value) (s : State) (o : Outcome) (t : State) : Prop := o = .returned (some (.int 1)) ∧ Framed s o t [] 600000 7302250
def lw_Z (below : List Frame) (a : Array Value) (s : State) : State → Prop := fun t => ∃ o, t.status = .running ∧ Ended t below o ∧ lw_Q a s o t
/-- the law's own end, with 1 on the stack, nothing written that was there before, its room as the claim has it -/
theorem lw_ret {p : Program} {l : Launch} {e : Env} {s : State} {m : MethodId} {below : List Frame} {meth : Method} {c : Code} {b : Nat} (hx : p.tables.exec = Jvm.exec) (hb : c.code = code) (hr : meth.sig.returnType = ret) (hlocks : meth.locks = false) {pc : Nat} {H : Heap} {ls : Array Slot} (hdg : decode code pc = .ok (.ireturn, 1)) : W p l e room_1 s m #[Value.ref b] below meth c H [] 600000 7302250 (lw_Z below #[Value.ref b] s) (F0 m pc ls [.int 1]) := by
  intro T hT X
  obtain ⟨fs, hret, hrun, hended, hW, hframe⟩ := X.leave (v := some (.int 1)) (hlocks := hlocks) (fun h => by rw [hr] at h; cases h)
  have hmeth' : T.vm.method? m = some meth := X.method'
  refine ⟨T.setFrames fs, ?_, .returned (some (.int 1)), hrun, hended, rfl, ⟨_, rfl⟩, hW, hframe⟩
  jvm_step X.here [X.here.top, hx, hb, hdg, hmeth', hr, ret, narrow_b1]
  (try refine ⟨rfl, ?_⟩); (try refine ⟨rfl, ?_⟩)
  first | (intro acts; rw [hret _ acts rfl rfl rfl]) | rw [hret _ _ rfl rfl rfl]
  exact Steps.refl _
/-- what holds at the law's entry: the machine, the code, the tables' words (any of lw_tbl by 'hts w (by decide +kernel)'), the script of L ints xs at the cell b, what the Statement gives of the start (any of its parts by flat_of_before) -/
def lw_At (p : Program) (s : State) (m : MethodId) (meth : Method) (c : Code) (b L : Nat) (xs : Nat → Int32) : Prop :=
  p.tables.exec = Jvm.exec ∧ c.code = code ∧ meth.sig.returnType = ret ∧ c.maxLocals = 4 ∧ s.vm.findClass R_law = some m.cls ∧ (∀ w ∈ lw_tbl, w.before #[Value.ref b] s = true) ∧ va_X b L xs s s.heap ∧ b < s.heap.size ∧ meth.locks = false ∧ (Jvm.Cond.and given_1 narrow_1).before #[Value.ref b] s = true
theorem ztb_flat : ztb.flatten = lw_tbl := by
  simp only [ztb, List.flatten_cons, List.flatten_nil, List.append_nil, lw_tbl, tables_1]
theorem z_b_lt (x : Int32) : z_b x ≤ 4294967295 := by
  unfold z_b
  omega
theorem zE6_ok (sg : Nat → Int32) : z_erel sg zE6 := by
  intro i q h
  have h1 : q ∈ zE6 := List.mem_of_getElem? h
  have h2 : q = (0, 4294967295) := by
    simpa [zE6] using h1
  subst h2
  exact ⟨Nat.zero_le _, z_b_lt _⟩
set_option maxRecDepth 100000 in
theorem zcd0_in : ∀ x ∈ zcd0, x ∈ z_cd zmL := fun x hx => List.drop_subset 0 _ (List.take_subset 3 _ (show x ∈ ((z_cd zmL).drop 0).take 3 from hx))
set_option maxRecDepth 100000 in
theorem zcd7_in : ∀ x ∈ zcd7, x ∈ z_cd zmL := fun x hx => List.drop_subset 3 _ (List.take_subset 7 _ (show x ∈ ((z_cd zmL).drop 3).take 7 from hx))
def znwT : List Jvm.Cond := znw.take 9
def znwN : List Jvm.Cond := znw.drop 9
theorem znwN_in : ∀ c ∈ znwN, c ∈ ztb.flatten := by
  have h : (znwN.zip [1032, 1038, 1126, 2020, 2118, 3042, 5104, 5105, 5116, 5173, 5207, 6008, 6018, 6205, 7075, 7230, 8041]).all (fun q => z_w0 ztb q.2 q.1) = true := by decide +kernel
  intro c hc
  obtain ⟨n, hn⟩ : ∃ n, (c, n) ∈ znwN.zip [1032, 1038, 1126, 2020, 2118, 3042, 5104, 5105, 5116, 5173, 5207, 6008, 6018, 6205, 7075, 7230, 8041] := by
    obtain ⟨i, hi, rfl⟩ := List.mem_iff_getElem.mp hc
    exact ⟨_, List.mem_iff_getElem.mpr ⟨i, by simpa [znwN, znw] using hi, by rw [List.getElem_zip]⟩⟩
  exact z_w0_ok (List.all_eq_true.mp h _ hn)
theorem znw_or {c : Jvm.Cond} (h : c ∈ znw) : c ∈ znwT ∨ c ∈ znwN := List.mem_append.mp (by rw [znwT, znwN, List.take_append_drop]; exact h)
theorem znwT_no : ∀ c ∈ znwT, (∀ a i y h, c ≠ Jvm.Cond.methodLinkNest a i y h) ∧ ∀ C, c ≠ Jvm.Cond.arrayOver C := by
  refine y_forall ?_ <| y_forall ?_ <| y_forall ?_ <| y_forall ?_ <| y_forall ?_ <| y_forall ?_ <| y_forall ?_ <| y_forall ?_ <| y_forall ?_ <| y_fornil
  all_goals exact ⟨fun _ _ _ _ z => (by cases z), fun _ z => (by cases z)⟩
theorem znwN_no : ∀ c ∈ znwN, (∀ a k t, c ≠ Jvm.Cond.stringRef a k t) ∧ (∀ t u, c ≠ Jvm.Cond.eq t u) ∧ ∀ t, c ≠ Jvm.Cond.isRef t := by
  refine y_forall ?_ <| y_forall ?_ <| y_forall ?_ <| y_forall ?_ <| y_forall ?_ <| y_forall ?_ <| y_forall ?_ <| y_forall ?_ <| y_forall ?_ <| y_forall ?_ <| y_forall ?_ <| y_forall ?_ <| y_forall ?_ <| y_forall ?_ <| y_forall ?_ <| y_forall ?_ <| y_forall ?_ <| y_fornil
  all_goals exact ⟨fun _ _ _ z => (by cases z), fun _ _ z => (by cases z), fun _ z => (by cases z)⟩
-- the texts
def lwTs (k : Nat) : Jvm.Term := .string "RailwayHouse$Reader" k
def lwTv (k : Nat) : Jvm.Term := .field (lwTs k) "java/lang/String" "value" "[B"
def lwTc (k : Nat) (bs : List Int32) : List Jvm.Cond := .exactly (lwTs k) "java/lang/String" :: .eq (.field (lwTs k) "java/lang/String" "coder" "B") (.int 0) :: .arrayOf (lwTv k) .byte :: .eq (.length (lwTv k)) (.int (Int32.ofNat bs.length)) :: (List.range bs.length).map fun j => .eq (.elem (lwTv k) (.int (Int32.ofNat j))) (.int (bs.getD j 0))
theorem lwTx {s : State} {args : Array Value} {k : Nat} {bs : List Int32} (hl : bs.length < 2 ^ 31) (h : ∀ c ∈ lwTc k bs, c.before args s = true) : ∃ a v : Nat, vk_S 1 [bs.length] [bs] (fun _ => a) (fun _ => v) (fun q : Nat => s.heap.size ≤ q) s s.heap ∧ (lwTs k).eval args s none [] s = some (.ref a) := by
  have z : ∀ i : Nat, i < 1 → i = 0 := fun i h => by omega
  obtain ⟨adK, adV, h1, h2⟩ := vk_Sof (args := args) (s := s) (N := 1) (tm := fun _ => lwTs k) (len := [bs.length]) (byt := [bs]) (A := fun q : Nat => s.heap.size ≤ q) (fun i hi => by rw [z i hi]; exact hl) (fun i hi => h _ List.mem_cons_self) (fun i hi => h _ (List.mem_cons_of_mem _ List.mem_cons_self)) (fun i hi => h _ (List.mem_cons_of_mem _ (List.mem_cons_of_mem _ List.mem_cons_self))) (fun i hi => by rw [z i hi]; exact h _ (List.mem_cons_of_mem _ (List.mem_cons_of_mem _ (List.mem_cons_of_mem _ List.mem_cons_self)))) (fun i hi j hj => by
    rw [z i hi] at hj ⊢
    exact h _ (List.mem_cons_of_mem _ (List.mem_cons_of_mem _ (List.mem_cons_of_mem _ (List.mem_cons_of_mem _ (List.mem_map.mpr ⟨j, List.mem_range.mpr hj, rfl⟩)))))) (fun i j hi hj hne => absurd ((z i hi).trans (z j hj).symm) hne) (fun a ha => Nat.not_le.mpr ha)
  refine ⟨adK 0, adV 0, ⟨fun i hi => ?_, fun i j hi hj _ => (z i hi).trans (z j hj).symm⟩, h2 0 (by omega)⟩
  rw [z i hi]
  exact h1.1 0 (by omega)
-- the laws at the beginning
theorem lw_K3 {sg : Nat → Int32} {bz : Nat} {tys : List (ClassId × FieldType)} {tg : List yC} {cw : va_W} (hz : z_WR zcls (z_g sg (cw.map Prod.fst) bz) tys zw2 cw) (hW : y_WT (ytb yw00) zcls tys tg cw) : K3 cw := by
  obtain ⟨e, he1, he2⟩ := z_WR_get (k := 114) hz rfl
  obtain ⟨vs, hvs⟩ : ∃ vs, e.2 = .inr (12, vs) ∧ z_SR (z_g sg (cw.map Prod.fst) bz) (match zw2[114]? with | some (Sum.inl q) => q.2 | _ => []) vs := by
    match hh : e.2, he2 with
    | .inr (k, o), z =>
      have : 12 = k := z.1
      subst this
      exact ⟨o, rfl, z.2⟩
    | .inl _, z => exact z.elim
  obtain ⟨a, e2⟩ := e
  have hvs1 : e2 = .inr (12, vs) := hvs.1
  subst hvs1
  have f0 : ∀ f : Nat, (match zw2[114]? with | some (Sum.inl q) => q.2 | _ => [])[f]? = some (.inl 0) → (y_fld cw 114 f).toInt = 0 := fun f hf => by
    obtain ⟨v, h1, h2⟩ := z_SR_get hvs.2 hf
    have h2 : v = .int (nI 0) := h2
    subst h2
    rw [y_fld_eq he1 h1]
    decide
  have hN : yKN cw := by
    obtain ⟨a1, c1, f1, g1, k1⟩ := y_rowOf (r := 116) (len := 24) (E := [(2147483648, 2147483649)]) hW rfl (by decide)
    have e1 : (UV cw).1 rNP = f1 := y_row_eq g1
    have z1 : ((UV cw).2 cM fNSe).toInt = 0 := f0 10 rfl
    have z2 : ((UV cw).2 cM fNSi).toInt = 0 := f0 17 rfl
    refine ⟨⟨y_forall (hasR_of hW rfl (by decide)) <| y_forall (hasR_of hW rfl (by decide)) <| y_forall (hasR_of hW rfl (by decide)) <| y_forall (hasR_of hW rfl (by decide)) <| y_forall (hasR_of hW rfl (by decide)) <| y_fornil, y_forall (hasF_of hW rfl rfl) <| y_forall (hasF_of hW rfl rfl) <| y_fornil⟩, PN_ext (y_agr_sym (y_agr_U sR_N sF_N cw)) ⟨⟨fun s hs => ?_, ⟨⟨by omega, by omega⟩, fun i hi => by omega⟩⟩, fun s hs => by omega, ⟨⟨by omega, by omega⟩, fun k hk => by omega⟩⟩⟩
    rw [e1]
    have b1 := i_1 (k1 s hs)
    omega
  have hKW : yKW cw := by
    have z1 : ((UV cw).2 cM fWM).toInt = 0 := f0 45 rfl
    exact ⟨⟨y_forall (hasR_of hW rfl (by decide)) <| y_forall (hasR_of hW rfl (by decide)) <| y_fornil, y_forall (hasF_of hW rfl rfl) <| y_fornil⟩, PW_ext (y_agr_sym (y_agr_U [142, 143] [(114, 45)] cw)) ⟨⟨by omega, by omega⟩, fun k hk => by omega⟩⟩
  refine K3_zero hW hN hKW (f0 20 rfl) (f0 27 rfl) (f0 87 rfl) (f0 88 rfl) (fun q hq => ?_)
  obtain ⟨e, r1, r2⟩ := z_WR_get (k := 188) hz rfl
  obtain ⟨a', e2⟩ := e
  match e2, r1, r2 with
  | .inl (cA, n, d), r1, ⟨_, _, f, hd, hf⟩ =>
    have hd : d = .inl f := hd
    subst hd
    rw [y_row_eq r1]
    have := hf q
    have e0 : (match zw2[188]? with | some (Sum.inr q) => q.2.2 | _ => []).getD q (.inl 0) = .inl 0 := by
      rcases (by omega : q = 0 ∨ q = 1 ∨ q = 2 ∨ q = 3 ∨ q = 4 ∨ q = 5 ∨ q = 6 ∨ q = 7) with rfl | rfl | rfl | rfl | rfl | rfl | rfl | rfl <;> rfl
    have this : z_g sg (cw.map Prod.fst) bz ((match zw2[188]? with | some (Sum.inr q) => q.2.2 | _ => []).getD q (.inl 0)) (.int (f q)) := this
    rw [e0] at this
    have this : f q = nI 0 := Value.int.inj this
    rw [this]
    decide
  | .inr _, _, z => exact z.elim
noncomputable def lwRf (k : Nat) (t : yT) : Bool := match t with
  | .inr (.inl ks) => y_mem k ks
  | _ => false
theorem lwW : zy_W lwRf zw2 ySh = true := by decide +kernel
theorem lw_WT {sg : Nat → Int32} {bz : Nat} {tys : List (ClassId × FieldType)} {cw : va_W} (hz : z_WR zcls (z_g sg (cw.map Prod.fst) bz) tys zw2 cw) : y_WT (ytb yw00) zcls tys ySh cw := by
  obtain ⟨h1, h2⟩ := zy_W_ok (cls := zcls) (tb := ytb yw00) (ad := cw.map Prod.fst) (tg := ySh) (rf := lwRf) (fun k t a g1 g2 => by
    unfold lwRf at g1
    split at g1
    · exact ⟨k, y_mem_ok g1, a, g2, rfl⟩
    · cases g1) lwW hz
  exact ⟨h1, ⟨[], (List.append_nil _).symm, fun c hc => by cases hc⟩, h2⟩
