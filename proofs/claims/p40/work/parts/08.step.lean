theorem z_gun {sg : Nat → Int32} {ad : List Nat} {b : Nat} (x : Int32) : z_g sg ad b (.inl (z_un x)) (.int x) := congrArg Value.int (z_nI_un x).symm
theorem z_SR_cons {g : zAV → Value → Prop} {a : zAV} {t : List zAV} {vs : List Value} (h : z_SR g (a :: t) vs) : ∃ v ct, vs = v :: ct ∧ g a v ∧ z_SR g t ct := by
  cases vs with
  | nil => exact h.elim
  | cons v ct => exact ⟨v, ct, rfl, h.1, h.2⟩
theorem z_SR_nil {g : zAV → Value → Prop} {vs : List Value} (h : z_SR g [] vs) : vs = [] := by
  cases vs with
  | nil => rfl
  | cons v ct => exact h.elim
theorem z_dl {mr : zMR} {q len : Nat} {i : Jvm.ClassFile.Instr} (hdg : decode (z_cc mr) q = .ok (i, len)) (h : z_isw i = true ∨ len = z_il i) (hs : z_isw i = false) : decode (z_cc mr) q = .ok (i, z_il i) := by
  rcases h with h | h
  · rw [hs] at h; cases h
  · rw [← h]; exact hdg
theorem z_br_int {c : Jvm.ClassFile.Cond} {a b : zAV} {env : zEnv} {re T F : zEnv → Bool} (h : z_br c a b env re T F = true) : z_isI a = true ∧ z_isI b = true := by
  match a, b, h with
  | .inl _, .inl _, _ => exact ⟨rfl, rfl⟩
  | .inl _, .inr (.inl _), _ => exact ⟨rfl, rfl⟩
  | .inr (.inl _), .inl _, _ => exact ⟨rfl, rfl⟩
  | .inr (.inl _), .inr (.inl _), _ => exact ⟨rfl, rfl⟩
  | .inr (.inr _), _, h => cases h
  | .inl _, .inr (.inr _), h => cases h
  | .inr (.inl _), .inr (.inr _), h => cases h
theorem z_off {d k : Int} : ∀ {ps : List (Int × Int)}, (∀ p ∈ ps, p.1 ≠ k) → Op.lookupswitch.offset ps d k = d
  | [], _ => rfl
  | (a, o) :: r, h => by
    rw [Op.lookupswitch.offset_cons, if_neg (h (a, o) List.mem_cons_self)]
    exact z_off (fun p hp => h p (List.mem_cons_of_mem _ hp))
section ZR
variable {p : Program} {l : Launch} {e : Env} {R : Room} {s : State} {m : MethodId} {args : Array Value} {below : List Frame} {meth : Method} {c : Code} {H : Heap} {locs : List Loc} {cells slots : Nat} {Q : State → Prop}
variable {cc : ByteArray} {pc : Nat} {ls : Array Slot} {rest : List Value}
theorem z_icmp (hexec : p.tables.exec = Jvm.exec) (hb : c.code = cc) {cd : Jvm.ClassFile.Cond} {x y : Int32} {off : Int} {tgt : Nat} (hdg : decode cc pc = .ok (.if_icmp cd off, 3)) (ht : (pc : Int) + off = (tgt : Int))
    (kt : z_hold cd x y → W p l e R s m args below meth c H locs cells slots Q (F0 m tgt ls rest)) (kf : ¬ z_hold cd x y → W p l e R s m args below meth c H locs cells slots Q (F0 m (pc + 3) ls rest)) : W p l e R s m args below meth c H locs cells slots Q (F0 m pc ls (.int y :: .int x :: rest)) := by
  cases cd
  · exact lv_icmp_eq hexec hb hdg ht kt kf
  · exact lv_icmp_ne hexec hb hdg ht kt (fun h => kf (fun n => n h))
  · exact lv_icmp_lt hexec hb hdg ht kt kf
  · exact lv_icmp_ge hexec hb hdg ht kt kf
  · exact lv_icmp_gt hexec hb hdg ht kt kf
  · exact lv_icmp_le hexec hb hdg ht kt kf
theorem z_if0 (hexec : p.tables.exec = Jvm.exec) (hb : c.code = cc) {cd : Jvm.ClassFile.Cond} {x : Int32} {off : Int} {tgt : Nat} (hdg : decode cc pc = .ok (.ifCond cd off, 3)) (ht : (pc : Int) + off = (tgt : Int))
    (kt : z_hold cd x 0 → W p l e R s m args below meth c H locs cells slots Q (F0 m tgt ls rest)) (kf : ¬ z_hold cd x 0 → W p l e R s m args below meth c H locs cells slots Q (F0 m (pc + 3) ls rest)) : W p l e R s m args below meth c H locs cells slots Q (F0 m pc ls (.int x :: rest)) := by
  cases cd
  · exact lv_if_eq hexec hb hdg ht kt kf
  · exact lv_if_ne hexec hb hdg ht kt (fun h => kf (fun n => n h))
  · exact lv_if_lt hexec hb hdg ht kt kf
  · exact lv_if_ge hexec hb hdg ht kt kf
  · exact lv_if_gt hexec hb hdg ht kt kf
  · exact lv_if_le hexec hb hdg ht kt kf
end ZR
/-- a cell that holds fields, found -/
theorem z_obj {cls : List vw_C} {sg : Nat → Int32} {b : Nat} {tys : List (ClassId × FieldType)} {w : List zAE} {cw : va_W} {a ci adr : Nat} {fs : List zAV} (hw : z_WR cls (z_g sg (cw.map Prod.fst) b) tys w cw) (h : w[a]? = some (.inl (ci, fs))) (ha : (cw.map Prod.fst)[a]? = some adr) : ∃ vs, cw[a]? = some (adr, .inr (ci, vs)) ∧ z_SR (z_g sg (cw.map Prod.fst) b) fs vs := by
  obtain ⟨⟨xa, xe⟩, h1, h2⟩ := z_WR_get hw h
  have h3 : xa = adr := z_ref_at ha h1
  subst h3
  cases xe with
  | inl _ => exact h2.elim
  | inr q =>
    obtain ⟨cj, vs⟩ := q
    have h4 : ci = cj := h2.1
    subst h4
    exact ⟨vs, h1, h2.2⟩
/-- a cell that is a row, found -/
theorem z_row {cls : List vw_C} {sg : Nat → Int32} {b : Nat} {tys : List (ClassId × FieldType)} {w : List zAE} {cw : va_W} {a kd n adr : Nat} {pr : List zAV} (hw : z_WR cls (z_g sg (cw.map Prod.fst) b) tys w cw) (h : w[a]? = some (.inr (kd, n, pr))) (ha : (cw.map Prod.fst)[a]? = some adr) : ∃ (cA : ClassId) (d : (Nat → Int32) ⊕ (Nat → Int64) ⊕ (Nat → UInt32) ⊕ (Nat → UInt64) ⊕ (Nat → Option Nat)) (t0 : Nat), cw[a]? = some (adr, .inl (cA, n, d)) ∧ tys[t0]? = some (cA, z_kty cls kd) ∧ z_DR (z_g sg (cw.map Prod.fst) b) kd pr d := by
  obtain ⟨⟨xa, xe⟩, h1, h2⟩ := z_WR_get hw h
  have h3 : xa = adr := z_ref_at ha h1
  subst h3
  cases xe with
  | inr _ => exact h2.elim
  | inl q =>
    obtain ⟨cA, m, d⟩ := q
    have h4 : n = m := h2.1
    subst h4
    obtain ⟨t0, h5⟩ := h2.2.1
    exact ⟨cA, d, t0, h1, h5, h2.2.2⟩
theorem z_fl_ok {tb : zTB} {cls : List vw_C} {own : String} {x1 x2 x3 j : Nat} (h : (match cls[x1]? with
    | some c => and (Nat.blt x2 c.2.2) (z_w tb x3 (.fieldLink own j (c.2.1 x2).1 (c.2.1 x2).2.1 (c.2.1 x2).2.2.1))
    | none => false) = true) : ∃ c, cls[x1]? = some c ∧ x2 < c.2.2 ∧ Jvm.Cond.fieldLink own j (c.2.1 x2).1 (c.2.1 x2).2.1 (c.2.1 x2).2.2.1 ∈ z_G tb := by
  cases hc : cls[x1]? with
  | none => rw [hc] at h; cases h
  | some c =>
    rw [hc] at h
    exact ⟨c, rfl, z_lt_of (z_and h).1, z_w_ok (z_and h).2⟩
theorem z_fp_ok {tb : zTB} {cls : List vw_C} {y : MethodName} {x1 x2 x3 j : Nat} (h : (match cls[x1]? with
    | some c => and (and (Nat.blt x2 c.2.2) (z_w tb x3 (.fieldLink y.cls j (c.2.1 x2).1 (c.2.1 x2).2.1 (c.2.1 x2).2.2.1))) (or (decide ((c.2.1 x2).2.2.2 = false)) (and (decide (y.name = "<init>")) (decide ((c.2.1 x2).1 = y.cls))))
    | none => false) = true) : ∃ c, cls[x1]? = some c ∧ x2 < c.2.2 ∧ Jvm.Cond.fieldLink y.cls j (c.2.1 x2).1 (c.2.1 x2).2.1 (c.2.1 x2).2.2.1 ∈ z_G tb ∧ ((c.2.1 x2).2.2.2 = false ∨ (y.name = "<init>" ∧ (c.2.1 x2).1 = y.cls)) := by
  cases hc : cls[x1]? with
  | none => rw [hc] at h; cases h
  | some c =>
    rw [hc] at h
    obtain ⟨h1, h2⟩ := z_and h
    rw [Bool.or_eq_true] at h2
    exact ⟨c, rfl, z_lt_of (z_and h1).1, z_w_ok (z_and h1).2, h2.imp of_decide_eq_true (fun z => ⟨of_decide_eq_true (z_and z).1, of_decide_eq_true (z_and z).2⟩)⟩
theorem z_nl_ok {tb : zTB} {cls : List vw_C} {own : String} {x1 x3 j : Nat} (h : (match cls[x1]? with
    | some c => z_w tb x3 (.classLink own j c.1)
    | none => false) = true) : ∃ c, cls[x1]? = some c ∧ Jvm.Cond.classLink own j c.1 ∈ z_G tb := by
  cases hc : cls[x1]? with
  | none => rw [hc] at h; cases h
  | some c => rw [hc] at h; exact ⟨c, rfl, z_w_ok h⟩
theorem z_al_ok {tb : zTB} {nw : List Jvm.Cond} {cls : List vw_C} {own : String} {x1 x2 x3 j : Nat} (h : (match cls[x1]? with
    | some c => and (z_w tb x3 (.classLink own j c.1)) (decide (nw[x2]? = some (.arrayOver (.object c.1))))
    | none => false) = true) : ∃ c, cls[x1]? = some c ∧ Jvm.Cond.classLink own j c.1 ∈ z_G tb ∧ Jvm.Cond.arrayOver (.object c.1) ∈ nw := by
  cases hc : cls[x1]? with
  | none => rw [hc] at h; cases h
  | some c => rw [hc] at h; exact ⟨c, rfl, z_w_ok (z_and h).1, List.mem_of_getElem? (of_decide_eq_true (z_and h).2)⟩
/-- behind a new cell -/
theorem z_St_push {cls : List vw_C} {D : va_G} {sg : Nat → Int32} {b : Nat} {s : State} {A : Nat → Prop} {ad0 : List Nat} {H1 : Heap} {locs : List Loc} {w : List zAE} {env : zEnv} {cw : va_W} {tys tys' : List (ClassId × FieldType)} {x : Nat × va_E} {en : zAE} (hK : va_K D cls tys' s) (hP : va_P D cls (cw ++ [x]) H1) (hD : va_D A (cw ++ [x])) (hS : va_S A s.heap H1 locs) (hw : z_WR cls (z_g sg (cw.map Prod.fst) b) tys w cw) (ht : ∀ (t0 : Nat) (q : ClassId × FieldType), tys[t0]? = some q → tys'[t0]? = some q) (hx : z_ER cls (z_g sg ((cw ++ [x]).map Prod.fst) b) tys' en x.2) (he : z_erel sg env) (hle : z_le ad0 (cw.map Prod.fst)) : z_St cls D sg b s A ad0 H1 locs (w ++ [en]) env (cw ++ [x]) tys' :=
  ⟨hK, hP, hD, hS, z_WR_push hx (z_WR_mono (fun a v => z_g_mono (z_le_push cw x)) ht hw), he, fun k a h => z_le_push cw x k a (hle k a h)⟩
theorem z_new_ref {cls : List vw_C} {g : zAV → Value → Prop} {tys : List (ClassId × FieldType)} {w : List zAE} {cw : va_W} {x : Nat × va_E} (hw : z_WR cls g tys w cw) : ((cw ++ [x]).map Prod.fst)[w.length]? = some x.1 := by
  rw [z_WR_len hw, List.map_append, List.getElem?_append_right (by simp)]
  simp
theorem z_Fr_push {sg : Nat → Int32} {b : Nat} {cw : va_W} {nL : Nat} {ls : Array Slot} {lv : List (Nat × Value)} {lo : List (Nat × zAV)} {st : List zAV} {cst : List Value} {x : Nat × va_E} {a : zAV} {v : Value} (hlv : lv_has ls nL lv) (hLR : z_LR (z_g sg (cw.map Prod.fst) b) lo lv) (hSR : z_SR (z_g sg (cw.map Prod.fst) b) st cst) (hg : z_g sg ((cw ++ [x]).map Prod.fst) b a v) : z_Fr sg b (cw ++ [x]) nL ls lo (a :: st) (v :: cst) :=
  ⟨⟨lv, hlv, z_LR_mono (fun a v => z_g_mono (z_le_push cw x)) hLR⟩, hg, z_SR_mono (fun a v => z_g_mono (z_le_push cw x)) hSR⟩
/-- behind a changed cell -/
theorem z_St_set {cls : List vw_C} {D : va_G} {sg : Nat → Int32} {b : Nat} {s : State} {A : Nat → Prop} {ad0 : List Nat} {H1 : Heap} {locs : List Loc} {w : List zAE} {env : zEnv} {cw : va_W} {tys : List (ClassId × FieldType)} {a adr : Nat} {x x' : va_E} {en : zAE} (hx0 : cw[a]? = some (adr, x)) (hK : va_K D cls tys s) (hP : va_P D cls (cw.set a (adr, x')) H1) (hD : va_D A (cw.set a (adr, x'))) (hS : va_S A s.heap H1 locs) (hw : z_WR cls (z_g sg (cw.map Prod.fst) b) tys w cw) (hx : z_ER cls (z_g sg (cw.map Prod.fst) b) tys en x') (he : z_erel sg env) (hle : z_le ad0 (cw.map Prod.fst)) : z_St cls D sg b s A ad0 H1 locs (w.set a en) env (cw.set a (adr, x')) tys := by
  refine ⟨hK, hP, hD, hS, ?_, he, ?_⟩
  · rw [z_fst_set hx0]; exact z_WR_set hx a hw
  · rw [z_fst_set hx0]; exact hle
theorem z_Fr_set {sg : Nat → Int32} {b : Nat} {cw : va_W} {nL : Nat} {ls : Array Slot} {lo : List (Nat × zAV)} {st : List zAV} {cst : List Value} {a adr : Nat} {x x' : va_E} (hx0 : cw[a]? = some (adr, x)) (h : z_Fr sg b cw nL ls lo st cst) : z_Fr sg b (cw.set a (adr, x')) nL ls lo st cst := by
  unfold z_Fr
  rw [z_fst_set hx0]
  exact h
theorem z_tys_app {tys : List (ClassId × FieldType)} {x : ClassId × FieldType} (t0 : Nat) (q : ClassId × FieldType) (h : tys[t0]? = some q) : (tys ++ [x])[t0]? = some q := by
  rw [List.getElem?_append_left (List.getElem?_eq_some_iff.mp h).1]
  exact h
theorem z_tys_new {tys : List (ClassId × FieldType)} {x : ClassId × FieldType} : (tys ++ [x])[tys.length]? = some x := by simp

set_option maxHeartbeats 40000000 in
set_option maxRecDepth 100000 in
theorem z_step_ok {tb : zTB} {nw : List Jvm.Cond} {cls : List vw_C} {zty : List (Nat → FieldType)} {zdv : List (List zAV)} {ms : List zMR} {l : Launch} {D : va_G} {sg : Nat → Int32} {b n : Nat} (hA : z_All tb nw cls zty zdv ms) (hS : z_Snd tb nw cls zty zdv ms l D sg b n) : z_Snd tb nw cls zty zdv ms l D sg b (n + 1) := by
  intro p e R s m args below meth c A ad0 lx mr Q hF k hend hstop H locs cw tys ls cst cd pc lo st ce sl env w hcd hSt hFr hce hsl hev
  have go : ∀ {H : Heap} {locs : List Loc} {cw : va_W} {tys : List (ClassId × FieldType)} {ls : Array Slot} {cst : List Value} {cd : List zEnt} {pc : Nat} {lo : List (Nat × zAV)} {st : List zAV} {ce sl : Nat} {env : zEnv} {w : List zAE}, z_ev cls zty zdv ms n lx mr cd pc lo st ce sl env w k = true → (∀ x ∈ cd, x ∈ z_cd mr) → z_St cls D sg b s A ad0 H locs w env cw tys → z_Fr sg b cw (z_mL mr) ls lo st cst → ce ≤ (z_rm mr).cells → sl ≤ (z_rm mr).slots → W p l e R s m args below meth c H locs ce sl Q (F0 m pc ls cst) := fun h1 h2 h3 h4 h5 h6 => hS p e R s m args below meth c A ad0 lx mr Q hF k hend hstop _ _ _ _ _ _ _ _ _ _ _ _ _ _ h2 h3 h4 h5 h6 h1
  cases cd with
  | nil => exact hstop H locs cw tys ls cst pc lo st ce sl env w hSt hFr hce hsl hev
  | cons x r =>
    obtain ⟨q, i, x1, x2, x3⟩ := x
    have hev : cond (Nat.beq q pc) (z_ins i cls zty zdv ms (z_ev cls zty zdv ms n) (fun env' => z_ev cls zty zdv ms n lx mr ((q, i, x1, x2, x3) :: r) pc lo st ce sl env' w k) lx mr q x1 x2 x3 r lo st ce sl env w k) false = true := hev
    obtain ⟨hq, hev⟩ := z_cond hev
    have hq := Nat.eq_of_beq_eq_true hq
    subst hq
    have hr : ∀ x ∈ r, x ∈ z_cd mr := fun x h => hcd x (List.mem_cons_of_mem _ h)
    have hj : ∀ t, ∀ x ∈ z_from (z_cd mr) t, x ∈ z_cd mr := fun t => z_from_sub _ t
    obtain ⟨hx, hb, hml, hown, hts, hin, hR, hN, hA0, hcode, hscr⟩ := id hF
    have hok := hcode _ (hcd _ List.mem_cons_self)
    obtain ⟨hdec, hokI⟩ := z_and hok
    obtain ⟨len, hdg, hlen⟩ := z_dec_ok hdec
    obtain ⟨hK, hP, hD, hS0, hw, he, hle⟩ := id hSt
    obtain ⟨⟨lv, hlv, hLR⟩, hSR⟩ := id hFr
    dsimp only at hdg hlen hokI
    have re : (∃ e', z_erel sg e' ∧ z_ev cls zty zdv ms n lx mr ((q, i, x1, x2, x3) :: r) q lo st ce sl e' w k = true) → W p l e R s m args below meth c H locs ce sl Q (F0 m q ls cst) := fun ⟨e', h1, h2⟩ => go h2 hcd ⟨hK, hP, hD, hS0, hw, h1, hle⟩ hFr hce hsl
    cases i with
    | iconst v =>
      have hev : z_h_iconst v cls zty zdv ms (z_ev cls zty zdv ms n) (fun env' => z_ev cls zty zdv ms n lx mr ((q, .iconst v, x1, x2, x3) :: r) q lo st ce sl env' w k) lx mr q x1 x2 x3 r lo st ce sl env w k = true := hev
      unfold z_h_iconst at hev
      have hdg := z_dl hdg hlen rfl
      have hev_1 := (z_frc_eq _ _).symm.trans hev
      refine lv_iconst hx hb hdg rfl (go hev_1 hr hSt ?_ hce hsl)
      exact ⟨⟨lv, hlv, hLR⟩, z_gun _, hSR⟩
    | bipush v =>
      have hev : z_h_bipush v cls zty zdv ms (z_ev cls zty zdv ms n) (fun env' => z_ev cls zty zdv ms n lx mr ((q, .bipush v, x1, x2, x3) :: r) q lo st ce sl env' w k) lx mr q x1 x2 x3 r lo st ce sl env w k = true := hev
      unfold z_h_bipush at hev
      have hdg := z_dl hdg hlen rfl
      have hev_2 := (z_frc_eq _ _).symm.trans hev
      refine lv_bipush hx hb hdg rfl (go hev_2 hr hSt ?_ hce hsl)
      exact ⟨⟨lv, hlv, hLR⟩, z_gun _, hSR⟩
    | sipush v =>
      have hev : z_h_sipush v cls zty zdv ms (z_ev cls zty zdv ms n) (fun env' => z_ev cls zty zdv ms n lx mr ((q, .sipush v, x1, x2, x3) :: r) q lo st ce sl env' w k) lx mr q x1 x2 x3 r lo st ce sl env w k = true := hev
      unfold z_h_sipush at hev
      have hdg := z_dl hdg hlen rfl
      have hev_3 := (z_frc_eq _ _).symm.trans hev
      refine lv_sipush hx hb hdg rfl (go hev_3 hr hSt ?_ hce hsl)
      exact ⟨⟨lv, hlv, hLR⟩, z_gun _, hSR⟩
    | ldc v =>
      have hev : z_h_ldc v cls zty zdv ms (z_ev cls zty zdv ms n) (fun env' => z_ev cls zty zdv ms n lx mr ((q, .ldc v, x1, x2, x3) :: r) q lo st ce sl env' w k) lx mr q x1 x2 x3 r lo st ce sl env w k = true := hev
      unfold z_h_ldc at hev
      have hdg := z_dl hdg hlen rfl
      have hev_4 := (z_frc_eq _ _).symm.trans hev
      refine lv_ldc hx hb hown (hts _ (z_w_ok hokI)) hdg (go hev_4 hr hSt ?_ hce hsl)
      exact ⟨⟨lv, hlv, hLR⟩, rfl, hSR⟩
    | lconst v =>
      have hev : z_h_lconst v cls zty zdv ms (z_ev cls zty zdv ms n) (fun env' => z_ev cls zty zdv ms n lx mr ((q, .lconst v, x1, x2, x3) :: r) q lo st ce sl env' w k) lx mr q x1 x2 x3 r lo st ce sl env w k = true := hev
      unfold z_h_lconst at hev
      have hdg := z_dl hdg hlen rfl
      refine lv_lconst hx hb hdg rfl (go hev hr hSt ?_ hce hsl)
      exact ⟨⟨lv, hlv, hLR⟩, ⟨_, rfl⟩, hSR⟩
    | aconst_null =>
      have hev : z_h_aconst_null cls zty zdv ms (z_ev cls zty zdv ms n) (fun env' => z_ev cls zty zdv ms n lx mr ((q, .aconst_null, x1, x2, x3) :: r) q lo st ce sl env' w k) lx mr q x1 x2 x3 r lo st ce sl env w k = true := hev
      unfold z_h_aconst_null at hev
      have hdg := z_dl hdg hlen rfl
      refine lv_null hx hb hdg (go hev hr hSt ?_ hce hsl)
      exact ⟨⟨lv, hlv, hLR⟩, rfl, hSR⟩
    | iload_n j =>
      have hev : z_h_iload_n j cls zty zdv ms (z_ev cls zty zdv ms n) (fun env' => z_ev cls zty zdv ms n lx mr ((q, .iload_n j, x1, x2, x3) :: r) q lo st ce sl env' w k) lx mr q x1 x2 x3 r lo st ce sl env w k = true := hev
      unfold z_h_iload_n at hev
      have hdg := z_dl hdg hlen rfl
      obtain ⟨a, h1, h2, hev_5⟩ := z_ld_ok hev
      obtain ⟨kk, v, g1, g2, g3⟩ := z_LR_lk hLR h1
      obtain ⟨x, rfl⟩ := z_isI_ok h2 g2
      refine lv_iload_n hx hb hdg rfl (lv_at hlv kk g1) (go hev_5 hr hSt ?_ hce hsl)
      exact ⟨⟨lv, hlv, hLR⟩, g2, hSR⟩
    | iload j =>
      have hev : z_h_iload j cls zty zdv ms (z_ev cls zty zdv ms n) (fun env' => z_ev cls zty zdv ms n lx mr ((q, .iload j, x1, x2, x3) :: r) q lo st ce sl env' w k) lx mr q x1 x2 x3 r lo st ce sl env w k = true := hev
      unfold z_h_iload at hev
      have hdg := z_dl hdg hlen rfl
      obtain ⟨a, h1, h2, hev_6⟩ := z_ld_ok hev
      obtain ⟨kk, v, g1, g2, g3⟩ := z_LR_lk hLR h1
      obtain ⟨x, rfl⟩ := z_isI_ok h2 g2
      refine lv_iload hx hb hdg (lv_at hlv kk g1) (go hev_6 hr hSt ?_ hce hsl)
      exact ⟨⟨lv, hlv, hLR⟩, g2, hSR⟩
    | aload_n j =>
      have hev : z_h_aload_n j cls zty zdv ms (z_ev cls zty zdv ms n) (fun env' => z_ev cls zty zdv ms n lx mr ((q, .aload_n j, x1, x2, x3) :: r) q lo st ce sl env' w k) lx mr q x1 x2 x3 r lo st ce sl env w k = true := hev
      unfold z_h_aload_n at hev
      have hdg := z_dl hdg hlen rfl
      obtain ⟨a, h1, h2, hev_7⟩ := z_ld_ok hev
      obtain ⟨kk, v, g1, g2, g3⟩ := z_LR_lk hLR h1
      rcases z_isR_ok h2 g2 with rfl | ⟨x, rfl⟩
      · refine lv_aload_nN hx hb hdg rfl (lv_at hlv kk g1) (go hev_7 hr hSt ?_ hce hsl)
        exact ⟨⟨lv, hlv, hLR⟩, g2, hSR⟩
      · refine lv_aload_n hx hb hdg rfl (lv_at hlv kk g1) (go hev_7 hr hSt ?_ hce hsl)
        exact ⟨⟨lv, hlv, hLR⟩, g2, hSR⟩
    | aload j =>
      have hev : z_h_aload j cls zty zdv ms (z_ev cls zty zdv ms n) (fun env' => z_ev cls zty zdv ms n lx mr ((q, .aload j, x1, x2, x3) :: r) q lo st ce sl env' w k) lx mr q x1 x2 x3 r lo st ce sl env w k = true := hev
      unfold z_h_aload at hev
      have hdg := z_dl hdg hlen rfl
      obtain ⟨a, h1, h2, hev_8⟩ := z_ld_ok hev
      obtain ⟨kk, v, g1, g2, g3⟩ := z_LR_lk hLR h1
      rcases z_isR_ok h2 g2 with rfl | ⟨x, rfl⟩
      · refine lv_aloadN hx hb hdg (lv_at hlv kk g1) (go hev_8 hr hSt ?_ hce hsl)
        exact ⟨⟨lv, hlv, hLR⟩, g2, hSR⟩
      · refine lv_aload hx hb hdg (lv_at hlv kk g1) (go hev_8 hr hSt ?_ hce hsl)
        exact ⟨⟨lv, hlv, hLR⟩, g2, hSR⟩
    | istore_n j =>
      have hev : z_h_istore_n j cls zty zdv ms (z_ev cls zty zdv ms n) (fun env' => z_ev cls zty zdv ms n lx mr ((q, .istore_n j, x1, x2, x3) :: r) q lo st ce sl env' w k) lx mr q x1 x2 x3 r lo st ce sl env w k = true := hev
      unfold z_h_istore_n at hev
      have hdg := z_dl hdg hlen rfl
      obtain ⟨a, t, rfl, h2, h3, hev_9⟩ := z_sto_ok hev
      obtain ⟨v, ct, rfl, g1, hSR_10⟩ := z_SR_cons hSR
      obtain ⟨x, rfl⟩ := z_isI_ok h2 g1
      refine lv_istore_n hx hb hdg rfl hlv h3 rfl (fun ls' hl' => go hev_9 hr hSt ?_ hce hsl)
      exact ⟨⟨_, hl', ⟨rfl, g1, rfl⟩, z_LR_del _ hLR⟩, hSR_10⟩
    | istore j =>
      have hev : z_h_istore j cls zty zdv ms (z_ev cls zty zdv ms n) (fun env' => z_ev cls zty zdv ms n lx mr ((q, .istore j, x1, x2, x3) :: r) q lo st ce sl env' w k) lx mr q x1 x2 x3 r lo st ce sl env w k = true := hev
      unfold z_h_istore at hev
      have hdg := z_dl hdg hlen rfl
      obtain ⟨a, t, rfl, h2, h3, hev_11⟩ := z_sto_ok hev
      obtain ⟨v, ct, rfl, g1, hSR_12⟩ := z_SR_cons hSR
      obtain ⟨x, rfl⟩ := z_isI_ok h2 g1
      refine lv_istore hx hb hdg hlv h3 rfl (fun ls' hl' => go hev_11 hr hSt ?_ hce hsl)
      exact ⟨⟨_, hl', ⟨rfl, g1, rfl⟩, z_LR_del _ hLR⟩, hSR_12⟩
    | astore_n j =>
      have hev : z_h_astore_n j cls zty zdv ms (z_ev cls zty zdv ms n) (fun env' => z_ev cls zty zdv ms n lx mr ((q, .astore_n j, x1, x2, x3) :: r) q lo st ce sl env' w k) lx mr q x1 x2 x3 r lo st ce sl env w k = true := hev
      unfold z_h_astore_n at hev
      have hdg := z_dl hdg hlen rfl
      obtain ⟨a, t, rfl, h2, h3, hev_13⟩ := z_sto_ok hev
      obtain ⟨v, ct, rfl, g1, hSR_14⟩ := z_SR_cons hSR
      rcases z_isO_ok h2 g1 with rfl | ⟨x, rfl⟩
      · refine lv_astore_nN hx hb hdg rfl hlv h3 rfl (fun ls' hl' => go hev_13 hr hSt ?_ hce hsl)
        exact ⟨⟨_, hl', ⟨rfl, g1, rfl⟩, z_LR_del _ hLR⟩, hSR_14⟩
      · refine lv_astore_n hx hb hdg rfl hlv h3 rfl (fun ls' hl' => go hev_13 hr hSt ?_ hce hsl)
        exact ⟨⟨_, hl', ⟨rfl, g1, rfl⟩, z_LR_del _ hLR⟩, hSR_14⟩
    | astore j =>
      have hev : z_h_astore j cls zty zdv ms (z_ev cls zty zdv ms n) (fun env' => z_ev cls zty zdv ms n lx mr ((q, .astore j, x1, x2, x3) :: r) q lo st ce sl env' w k) lx mr q x1 x2 x3 r lo st ce sl env w k = true := hev
      unfold z_h_astore at hev
      have hdg := z_dl hdg hlen rfl
      obtain ⟨a, t, rfl, h2, h3, hev_15⟩ := z_sto_ok hev
      obtain ⟨v, ct, rfl, g1, hSR_16⟩ := z_SR_cons hSR
      rcases z_isO_ok h2 g1 with rfl | ⟨x, rfl⟩
      · refine lv_astoreN hx hb hdg hlv h3 rfl (fun ls' hl' => go hev_15 hr hSt ?_ hce hsl)
        exact ⟨⟨_, hl', ⟨rfl, g1, rfl⟩, z_LR_del _ hLR⟩, hSR_16⟩
      · refine lv_astore hx hb hdg hlv h3 rfl (fun ls' hl' => go hev_15 hr hSt ?_ hce hsl)
        exact ⟨⟨_, hl', ⟨rfl, g1, rfl⟩, z_LR_del _ hLR⟩, hSR_16⟩
    | iinc j v =>
      have hev : z_h_iinc j v cls zty zdv ms (z_ev cls zty zdv ms n) (fun env' => z_ev cls zty zdv ms n lx mr ((q, .iinc j v, x1, x2, x3) :: r) q lo st ce sl env' w k) lx mr q x1 x2 x3 r lo st ce sl env w k = true := hev
      unfold z_h_iinc at hev
      have hdg := z_dl hdg hlen rfl
      obtain ⟨a, h1, h2, hev_17⟩ := z_ld_ok hev
      obtain ⟨kk, v1, g1, g2, g3⟩ := z_LR_lk hLR h1
      obtain ⟨x, y, c0, rfl, e2, g4, hev_18⟩ := z_bin_ok hev_17 he g2 (z_gun (Int32.ofInt v))
      cases e2
      obtain ⟨h3, hev_19⟩ := z_cond hev_18
      have hev_20 := (z_del_eq _ _ _).symm.trans hev_19
      refine lv_iinc hx hb hdg hlv g1 rfl (z_lt_of h3) rfl (fun ls' hl' => go hev_20 hr hSt ?_ hce hsl)
      exact ⟨⟨_, hl', ⟨rfl, g4, rfl⟩, z_LR_del _ hLR⟩, hSR⟩
    | iadd =>
      have hev : z_h_iadd cls zty zdv ms (z_ev cls zty zdv ms n) (fun env' => z_ev cls zty zdv ms n lx mr ((q, .iadd, x1, x2, x3) :: r) q lo st ce sl env' w k) lx mr q x1 x2 x3 r lo st ce sl env w k = true := hev
      unfold z_h_iadd at hev
      have hdg := z_dl hdg hlen rfl
      obtain ⟨a, b1, t, rfl, hev_21⟩ := z_b2_ok hev
      obtain ⟨v2, c1, rfl, g2, hSR_22⟩ := z_SR_cons hSR
      obtain ⟨v1, c2, rfl, g1, hSR_23⟩ := z_SR_cons hSR_22
      obtain ⟨x, y, c0, rfl, rfl, g3, hev_24⟩ := z_bin_ok hev_21 he g1 g2
      refine lv_iadd hx hb hdg (go hev_24 hr hSt ?_ hce hsl)
      exact ⟨⟨lv, hlv, hLR⟩, g3, hSR_23⟩
    | isub =>
      have hev : z_h_isub cls zty zdv ms (z_ev cls zty zdv ms n) (fun env' => z_ev cls zty zdv ms n lx mr ((q, .isub, x1, x2, x3) :: r) q lo st ce sl env' w k) lx mr q x1 x2 x3 r lo st ce sl env w k = true := hev
      unfold z_h_isub at hev
      have hdg := z_dl hdg hlen rfl
      obtain ⟨a, b1, t, rfl, hev_25⟩ := z_b2_ok hev
      obtain ⟨v2, c1, rfl, g2, hSR_26⟩ := z_SR_cons hSR
      obtain ⟨v1, c2, rfl, g1, hSR_27⟩ := z_SR_cons hSR_26
      obtain ⟨x, y, c0, rfl, rfl, g3, hev_28⟩ := z_bin_ok hev_25 he g1 g2
      refine lv_isub hx hb hdg (go hev_28 hr hSt ?_ hce hsl)
      exact ⟨⟨lv, hlv, hLR⟩, g3, hSR_27⟩
    | imul =>
      have hev : z_h_imul cls zty zdv ms (z_ev cls zty zdv ms n) (fun env' => z_ev cls zty zdv ms n lx mr ((q, .imul, x1, x2, x3) :: r) q lo st ce sl env' w k) lx mr q x1 x2 x3 r lo st ce sl env w k = true := hev
      unfold z_h_imul at hev
      have hdg := z_dl hdg hlen rfl
      obtain ⟨a, b1, t, rfl, hev_29⟩ := z_b2_ok hev
      obtain ⟨v2, c1, rfl, g2, hSR_30⟩ := z_SR_cons hSR
      obtain ⟨v1, c2, rfl, g1, hSR_31⟩ := z_SR_cons hSR_30
      obtain ⟨x, y, c0, rfl, rfl, g3, hev_32⟩ := z_bin_ok hev_29 he g1 g2
      refine lv_imul hx hb hdg (go hev_32 hr hSt ?_ hce hsl)
      exact ⟨⟨lv, hlv, hLR⟩, g3, hSR_31⟩
    | iand =>
      have hev : z_h_iand cls zty zdv ms (z_ev cls zty zdv ms n) (fun env' => z_ev cls zty zdv ms n lx mr ((q, .iand, x1, x2, x3) :: r) q lo st ce sl env' w k) lx mr q x1 x2 x3 r lo st ce sl env w k = true := hev
      unfold z_h_iand at hev
      have hdg := z_dl hdg hlen rfl
      obtain ⟨a, b1, t, rfl, hev_33⟩ := z_b2_ok hev
      obtain ⟨v2, c1, rfl, g2, hSR_34⟩ := z_SR_cons hSR
      obtain ⟨v1, c2, rfl, g1, hSR_35⟩ := z_SR_cons hSR_34
      obtain ⟨x, y, c0, rfl, rfl, g3, hev_36⟩ := z_bin_ok hev_33 he g1 g2
      refine lv_iand hx hb hdg (go hev_36 hr hSt ?_ hce hsl)
      exact ⟨⟨lv, hlv, hLR⟩, g3, hSR_35⟩
    | ior =>
      have hev : z_h_ior cls zty zdv ms (z_ev cls zty zdv ms n) (fun env' => z_ev cls zty zdv ms n lx mr ((q, .ior, x1, x2, x3) :: r) q lo st ce sl env' w k) lx mr q x1 x2 x3 r lo st ce sl env w k = true := hev
      unfold z_h_ior at hev
      have hdg := z_dl hdg hlen rfl
      obtain ⟨a, b1, t, rfl, hev_37⟩ := z_b2_ok hev
      obtain ⟨v2, c1, rfl, g2, hSR_38⟩ := z_SR_cons hSR
      obtain ⟨v1, c2, rfl, g1, hSR_39⟩ := z_SR_cons hSR_38
      obtain ⟨x, y, c0, rfl, rfl, g3, hev_40⟩ := z_bin_ok hev_37 he g1 g2
      refine lv_ior hx hb hdg (go hev_40 hr hSt ?_ hce hsl)
      exact ⟨⟨lv, hlv, hLR⟩, g3, hSR_39⟩
    | ishl =>
      have hev : z_h_ishl cls zty zdv ms (z_ev cls zty zdv ms n) (fun env' => z_ev cls zty zdv ms n lx mr ((q, .ishl, x1, x2, x3) :: r) q lo st ce sl env' w k) lx mr q x1 x2 x3 r lo st ce sl env w k = true := hev
      unfold z_h_ishl at hev
      have hdg := z_dl hdg hlen rfl
      obtain ⟨a, b1, t, rfl, hev_41⟩ := z_b2_ok hev
      obtain ⟨v2, c1, rfl, g2, hSR_42⟩ := z_SR_cons hSR
      obtain ⟨v1, c2, rfl, g1, hSR_43⟩ := z_SR_cons hSR_42
      obtain ⟨x, y, c0, rfl, rfl, g3, hev_44⟩ := z_bin_ok hev_41 he g1 g2
      refine lv_ishl hx hb hdg (go hev_44 hr hSt ?_ hce hsl)
      exact ⟨⟨lv, hlv, hLR⟩, g3, hSR_43⟩
    | ishr =>
      have hev : z_h_ishr cls zty zdv ms (z_ev cls zty zdv ms n) (fun env' => z_ev cls zty zdv ms n lx mr ((q, .ishr, x1, x2, x3) :: r) q lo st ce sl env' w k) lx mr q x1 x2 x3 r lo st ce sl env w k = true := hev
      unfold z_h_ishr at hev
      have hdg := z_dl hdg hlen rfl
      obtain ⟨a, b1, t, rfl, hev_45⟩ := z_b2_ok hev
      obtain ⟨v2, c1, rfl, g2, hSR_46⟩ := z_SR_cons hSR
      obtain ⟨v1, c2, rfl, g1, hSR_47⟩ := z_SR_cons hSR_46
      obtain ⟨x, y, c0, rfl, rfl, g3, hev_48⟩ := z_bin_ok hev_45 he g1 g2
      refine lv_ishr hx hb hdg (go hev_48 hr hSt ?_ hce hsl)
      exact ⟨⟨lv, hlv, hLR⟩, g3, hSR_47⟩
    | iushr =>
      have hev : z_h_iushr cls zty zdv ms (z_ev cls zty zdv ms n) (fun env' => z_ev cls zty zdv ms n lx mr ((q, .iushr, x1, x2, x3) :: r) q lo st ce sl env' w k) lx mr q x1 x2 x3 r lo st ce sl env w k = true := hev
      unfold z_h_iushr at hev
      have hdg := z_dl hdg hlen rfl
      obtain ⟨a, b1, t, rfl, hev_49⟩ := z_b2_ok hev
      obtain ⟨v2, c1, rfl, g2, hSR_50⟩ := z_SR_cons hSR
      obtain ⟨v1, c2, rfl, g1, hSR_51⟩ := z_SR_cons hSR_50
      obtain ⟨x, y, c0, rfl, rfl, g3, hev_52⟩ := z_bin_ok hev_49 he g1 g2
      refine lv_iushr hx hb hdg rfl (go hev_52 hr hSt ?_ hce hsl)
      exact ⟨⟨lv, hlv, hLR⟩, g3, hSR_51⟩
    | irem =>
      have hev : z_h_irem cls zty zdv ms (z_ev cls zty zdv ms n) (fun env' => z_ev cls zty zdv ms n lx mr ((q, .irem, x1, x2, x3) :: r) q lo st ce sl env' w k) lx mr q x1 x2 x3 r lo st ce sl env w k = true := hev
      unfold z_h_irem at hev
      have hdg := z_dl hdg hlen rfl
      obtain ⟨a, b1, t, rfl, hev_53⟩ := z_b2_ok hev
      obtain ⟨v2, c1, rfl, g2, hSR_54⟩ := z_SR_cons hSR
      obtain ⟨v1, c2, rfl, g1, hSR_55⟩ := z_SR_cons hSR_54
      have g2 := z_rs_ok he g2
      rcases z_ks_ok hev_53 with ⟨y, e1, hev_56⟩ | ⟨_, _, hev_56⟩
      · rw [e1] at g2
        have g2 : v2 = .int (nI y) := g2
        subst g2
        cases hc : Nat.beq (z_bu y) 2147483648 with
        | true => rw [hc] at hev_56; cases hev_56
        | false =>
          rw [hc, cond_false] at hev_56
          obtain ⟨x, y2, c0, rfl, e2, g3, hev_57⟩ := z_bin_ok hev_56 he g1 (show z_g sg (cw.map Prod.fst) b (.inl y) (.int (nI y)) from rfl)
          cases e2
          have hne : ¬ nI y = 0 := by
            intro h0
            have h1 := (z_beq (nI y) 0).mp h0
            rw [z_b_nI] at h1
            rw [h1] at hc
            exact absurd hc (by decide)
          refine lv_irem hx hb hdg hne (go hev_57 hr hSt ?_ hce hsl)
          exact ⟨⟨lv, hlv, hLR⟩, g3, hSR_55⟩
      · cases hev_56
    | i2b =>
      have hev : z_h_i2b cls zty zdv ms (z_ev cls zty zdv ms n) (fun env' => z_ev cls zty zdv ms n lx mr ((q, .i2b, x1, x2, x3) :: r) q lo st ce sl env' w k) lx mr q x1 x2 x3 r lo st ce sl env w k = true := hev
      unfold z_h_i2b at hev
      have hdg := z_dl hdg hlen rfl
      obtain ⟨a, t, rfl, hev_58⟩ := z_p1_ok hev
      obtain ⟨v1, c2, rfl, g1, hSR_59⟩ := z_SR_cons hSR
      obtain ⟨x, y2, c0, rfl, e2, g3, hev_60⟩ := z_bin_ok hev_58 he g1 (show z_g sg (cw.map Prod.fst) b (.inl 0) (.int (nI 0)) from rfl)
      refine lv_i2b hx hb hdg rfl (go hev_60 hr hSt ?_ hce hsl)
      exact ⟨⟨lv, hlv, hLR⟩, g3, hSR_59⟩
    | ifCond cd o =>
      have hev : z_h_ifCond cd o cls zty zdv ms (z_ev cls zty zdv ms n) (fun env' => z_ev cls zty zdv ms n lx mr ((q, .ifCond cd o, x1, x2, x3) :: r) q lo st ce sl env' w k) lx mr q x1 x2 x3 r lo st ce sl env w k = true := hev
      unfold z_h_ifCond at hev
      have hdg := z_dl hdg hlen rfl
      obtain ⟨a, t, rfl, hev_61⟩ := z_p1_ok hev
      obtain ⟨v1, c2, rfl, g1, hSR_62⟩ := z_SR_cons hSR
      have g1 := z_rs_ok he g1
      obtain ⟨x, rfl⟩ := z_isI_ok (z_br_int hev_61).1 g1
      have ht := of_decide_eq_true hokI
      rcases z_br_ok hev_61 he g1 (show z_g sg (cw.map Prod.fst) b (.inl 0) (.int 0) from rfl) with ⟨k1, k2⟩ | h
      · refine z_if0 hx hb hdg ht (fun h => ?_) (fun h => ?_)
        · obtain ⟨e1, he1, hev_63⟩ := k1 h
          exact go hev_63 (hj _) ⟨hK, hP, hD, hS0, hw, he1, hle⟩ ⟨⟨lv, hlv, hLR⟩, hSR_62⟩ hce hsl
        · obtain ⟨e1, he1, hev_64⟩ := k2 h
          exact go hev_64 hr ⟨hK, hP, hD, hS0, hw, he1, hle⟩ ⟨⟨lv, hlv, hLR⟩, hSR_62⟩ hce hsl
      · exact re h
    | if_icmp cd o =>
      have hev : z_h_if_icmp cd o cls zty zdv ms (z_ev cls zty zdv ms n) (fun env' => z_ev cls zty zdv ms n lx mr ((q, .if_icmp cd o, x1, x2, x3) :: r) q lo st ce sl env' w k) lx mr q x1 x2 x3 r lo st ce sl env w k = true := hev
      unfold z_h_if_icmp at hev
      have hdg := z_dl hdg hlen rfl
      obtain ⟨a, b1, t, rfl, hev_65⟩ := z_b2_ok hev
      obtain ⟨v2, c1, rfl, g2, hSR_66⟩ := z_SR_cons hSR
      obtain ⟨v1, c2, rfl, g1, hSR_67⟩ := z_SR_cons hSR_66
      have g1 := z_rs_ok he g1
      have g2 := z_rs_ok he g2
      obtain ⟨x, rfl⟩ := z_isI_ok (z_br_int hev_65).1 g1
      obtain ⟨y, rfl⟩ := z_isI_ok (z_br_int hev_65).2 g2
      have ht := of_decide_eq_true hokI
      rcases z_br_ok hev_65 he g1 g2 with ⟨k1, k2⟩ | h
      · refine z_icmp hx hb hdg ht (fun h => ?_) (fun h => ?_)
        · obtain ⟨e1, he1, hev_68⟩ := k1 h
          exact go hev_68 (hj _) ⟨hK, hP, hD, hS0, hw, he1, hle⟩ ⟨⟨lv, hlv, hLR⟩, hSR_67⟩ hce hsl
        · obtain ⟨e1, he1, hev_69⟩ := k2 h
          exact go hev_69 hr ⟨hK, hP, hD, hS0, hw, he1, hle⟩ ⟨⟨lv, hlv, hLR⟩, hSR_67⟩ hce hsl
      · exact re h
    | ifnull o =>
      have hev : z_h_ifnull o cls zty zdv ms (z_ev cls zty zdv ms n) (fun env' => z_ev cls zty zdv ms n lx mr ((q, .ifnull o, x1, x2, x3) :: r) q lo st ce sl env' w k) lx mr q x1 x2 x3 r lo st ce sl env w k = true := hev
      unfold z_h_ifnull at hev
      have hdg := z_dl hdg hlen rfl
      obtain ⟨a, t, rfl, hev_70⟩ := z_p1_ok hev
      obtain ⟨v1, c2, rfl, g1, hSR_71⟩ := z_SR_cons hSR
      have ht := of_decide_eq_true hokI
      rcases z_nul_ok hev_70 with ⟨rfl, hev_72⟩ | ⟨a1, rfl, hev_72⟩
      · have g1 : v1 = .null := g1
        subst g1
        exact lv_ifnullN hx hb hdg ht (go hev_72 (hj _) hSt ⟨⟨lv, hlv, hLR⟩, hSR_71⟩ hce hsl)
      · obtain ⟨adr, _, rfl⟩ := g1
        exact lv_ifnull hx hb hdg (go hev_72 hr hSt ⟨⟨lv, hlv, hLR⟩, hSR_71⟩ hce hsl)
    | ifnonnull o =>
      have hev : z_h_ifnonnull o cls zty zdv ms (z_ev cls zty zdv ms n) (fun env' => z_ev cls zty zdv ms n lx mr ((q, .ifnonnull o, x1, x2, x3) :: r) q lo st ce sl env' w k) lx mr q x1 x2 x3 r lo st ce sl env w k = true := hev
      unfold z_h_ifnonnull at hev
      have hdg := z_dl hdg hlen rfl
      obtain ⟨a, t, rfl, hev_73⟩ := z_p1_ok hev
      obtain ⟨v1, c2, rfl, g1, hSR_74⟩ := z_SR_cons hSR
      have ht := of_decide_eq_true hokI
      rcases z_nul_ok hev_73 with ⟨rfl, hev_75⟩ | ⟨a1, rfl, hev_75⟩
      · have g1 : v1 = .null := g1
        subst g1
        exact lv_ifnonnullN hx hb hdg (go hev_75 hr hSt ⟨⟨lv, hlv, hLR⟩, hSR_74⟩ hce hsl)
      · obtain ⟨adr, _, rfl⟩ := g1
        exact lv_ifnonnull hx hb hdg ht (go hev_75 (hj _) hSt ⟨⟨lv, hlv, hLR⟩, hSR_74⟩ hce hsl)
    | goto o =>
      have hev : z_h_goto o cls zty zdv ms (z_ev cls zty zdv ms n) (fun env' => z_ev cls zty zdv ms n lx mr ((q, .goto o, x1, x2, x3) :: r) q lo st ce sl env' w k) lx mr q x1 x2 x3 r lo st ce sl env w k = true := hev
      unfold z_h_goto at hev
      have hdg := z_dl hdg hlen rfl
      have ht := of_decide_eq_true hokI
      exact lv_goto hx hb hdg ht (go hev (hj _) hSt hFr hce hsl)
    | dup =>
      have hev : z_h_dup cls zty zdv ms (z_ev cls zty zdv ms n) (fun env' => z_ev cls zty zdv ms n lx mr ((q, .dup, x1, x2, x3) :: r) q lo st ce sl env' w k) lx mr q x1 x2 x3 r lo st ce sl env w k = true := hev
      unfold z_h_dup at hev
      have hdg := z_dl hdg hlen rfl
      obtain ⟨a, t, rfl, hev_76⟩ := z_p1_ok hev
      obtain ⟨h1, hev_77⟩ := z_cond hev_76
      obtain ⟨v1, c2, rfl, g1, hSR_78⟩ := z_SR_cons hSR
      refine lv_dup hx hb hdg (z_c1_ok h1 g1) (go hev_77 hr hSt ?_ hce hsl)
      exact ⟨⟨lv, hlv, hLR⟩, g1, g1, hSR_78⟩
    | tableswitch d l0 h0 offs =>
      have hev : z_h_tableswitch d l0 h0 offs cls zty zdv ms (z_ev cls zty zdv ms n) (fun env' => z_ev cls zty zdv ms n lx mr ((q, .tableswitch d l0 h0 offs, x1, x2, x3) :: r) q lo st ce sl env' w k) lx mr q x1 x2 x3 r lo st ce sl env w k = true := hev
      unfold z_h_tableswitch at hev
      obtain ⟨a, t, rfl, hev_79⟩ := z_p1_ok hev
      obtain ⟨v1, c2, rfl, g1, hSR_80⟩ := z_SR_cons hSR
      have g1 := z_rs_ok he g1
      rcases z_ks_ok hev_79 with ⟨u, e1, hev_81⟩ | ⟨j, e1, hev_81⟩
      · rw [e1] at g1
        have g1 : v1 = .int (nI u) := g1
        subst g1
        cases hc : or (decide ((nI u).toInt < l0)) (decide (h0 < (nI u).toInt)) with
        | true =>
          rw [hc] at hev_81
          obtain ⟨tg, ht, hev_82⟩ := z_to_ok hev_81
          rw [Bool.or_eq_true] at hc
          exact lv_tableOut hx hb hdg (hc.imp of_decide_eq_true of_decide_eq_true) ht (go hev_82 (hj _) hSt ⟨⟨lv, hlv, hLR⟩, hSR_80⟩ hce hsl)
        | false =>
          rw [hc] at hev_81
          obtain ⟨of, ho, hev_83⟩ := z_op_ok hev_81
          obtain ⟨tg, ht, hev_84⟩ := z_to_ok hev_83
          rw [Bool.or_eq_false_iff] at hc
          exact lv_tableIn hx hb hdg (of_decide_eq_false hc.1) (of_decide_eq_false hc.2) ho ht (go hev_84 (hj _) hSt ⟨⟨lv, hlv, hLR⟩, hSR_80⟩ hce hsl)
      · rw [e1] at g1
        have g1 : v1 = .int (sg j) := g1
        subst g1
        obtain ⟨h1, hev_85⟩ := z_cond hev_81
        have h2 := of_decide_eq_true (z_and h1).1
        have h3 := of_decide_eq_true (z_and h1).2
        obtain ⟨tg, ht, hev_86⟩ := z_to_ok hev_85
        have hbi := z_b_int (sg j)
        obtain ⟨k1, k2⟩ := z_spl_ok (sg := sg) hev_86 he
        by_cases hlt : z_b (sg j) < x2
        · obtain ⟨e1, he1, hev_87⟩ := k1 hlt
          exact lv_tableOut hx hb hdg (Or.inl (by omega)) ht (go hev_87 (hj _) ⟨hK, hP, hD, hS0, hw, he1, hle⟩ ⟨⟨lv, hlv, hLR⟩, hSR_80⟩ hce hsl)
        · obtain ⟨e1, he1, hev_88⟩ := k2 hlt
          obtain ⟨k3, k4⟩ := z_spl_ok (sg := sg) hev_88 he1
          by_cases hlt2 : z_b (sg j) < x3
          · obtain ⟨e2, he2, hev_89⟩ := k3 hlt2
            exact re (z_con_ok hev_89 he2)
          · obtain ⟨e2, he2, hev_90⟩ := k4 hlt2
            exact lv_tableOut hx hb hdg (Or.inr (by omega)) ht (go hev_90 (hj _) ⟨hK, hP, hD, hS0, hw, he2, hle⟩ ⟨⟨lv, hlv, hLR⟩, hSR_80⟩ hce hsl)
    | lookupswitch d ps =>
      have hev : z_h_lookupswitch d ps cls zty zdv ms (z_ev cls zty zdv ms n) (fun env' => z_ev cls zty zdv ms n lx mr ((q, .lookupswitch d ps, x1, x2, x3) :: r) q lo st ce sl env' w k) lx mr q x1 x2 x3 r lo st ce sl env w k = true := hev
      unfold z_h_lookupswitch at hev
      obtain ⟨a, t, rfl, hev_91⟩ := z_p1_ok hev
      obtain ⟨v1, c2, rfl, g1, hSR_92⟩ := z_SR_cons hSR
      have g1 := z_rs_ok he g1
      rcases z_ks_ok hev_91 with ⟨u, e1, hev_93⟩ | ⟨j, e1, hev_93⟩
      · rw [e1] at g1
        have g1 : v1 = .int (nI u) := g1
        subst g1
        obtain ⟨h1, hev_94⟩ := z_cond hev_93
        obtain ⟨tg, ht, hev_95⟩ := z_to_ok hev_94
        exact lv_lookup hx hb hdg h1 rfl ht (go hev_95 (hj _) hSt ⟨⟨lv, hlv, hLR⟩, hSR_92⟩ hce hsl)
      · rw [e1] at g1
        have g1 : v1 = .int (sg j) := g1
        subst g1
        obtain ⟨h1, hev_96⟩ := z_cond hev_93
        obtain ⟨h2, h3⟩ := z_and h1
        have h3 : ∀ p ∈ ps.toList, (x2 : Int) ≤ p.1 + 2147483648 ∧ p.1 + 2147483648 < (x3 : Int) := fun p hp => ⟨of_decide_eq_true (z_and (List.all_eq_true.mp h3 p hp)).1, of_decide_eq_true (z_and (List.all_eq_true.mp h3 p hp)).2⟩
        obtain ⟨tg, ht, hev_97⟩ := z_to_ok hev_96
        have hbi := z_b_int (sg j)
        obtain ⟨k1, k2⟩ := z_spl_ok (sg := sg) hev_97 he
        by_cases hlt : z_b (sg j) < x2
        · obtain ⟨e1, he1, hev_98⟩ := k1 hlt
          exact lv_lookup hx hb hdg h2 (z_off (fun p hp => by have := h3 p hp; omega)) ht (go hev_98 (hj _) ⟨hK, hP, hD, hS0, hw, he1, hle⟩ ⟨⟨lv, hlv, hLR⟩, hSR_92⟩ hce hsl)
        · obtain ⟨e1, he1, hev_99⟩ := k2 hlt
          obtain ⟨k3, k4⟩ := z_spl_ok (sg := sg) hev_99 he1
          by_cases hlt2 : z_b (sg j) < x3
          · obtain ⟨e2, he2, hev_100⟩ := k3 hlt2
            exact re (z_con_ok hev_100 he2)
          · obtain ⟨e2, he2, hev_101⟩ := k4 hlt2
            exact lv_lookup hx hb hdg h2 (z_off (fun p hp => by have := h3 p hp; omega)) ht (go hev_101 (hj _) ⟨hK, hP, hD, hS0, hw, he2, hle⟩ ⟨⟨lv, hlv, hLR⟩, hSR_92⟩ hce hsl)
    | getfield j =>
      have hev : z_h_getfield j cls zty zdv ms (z_ev cls zty zdv ms n) (fun env' => z_ev cls zty zdv ms n lx mr ((q, .getfield j, x1, x2, x3) :: r) q lo st ce sl env' w k) lx mr q x1 x2 x3 r lo st ce sl env w k = true := hev
      unfold z_h_getfield at hev
      have hdg := z_dl hdg hlen rfl
      obtain ⟨a, t, rfl, hev_102⟩ := z_pr_ok hev
      obtain ⟨v1, c2, rfl, g1, hSR_103⟩ := z_SR_cons hSR
      obtain ⟨adr, ha, rfl⟩ := g1
      obtain ⟨ci, fs, h1, hev_104⟩ := z_ob_ok hev_102
      obtain ⟨h2, hev_105⟩ := z_cond hev_104
      have h2 := Nat.eq_of_beq_eq_true h2
      subst h2
      obtain ⟨v, h3, hev_106⟩ := z_opl_ok hev_105
      obtain ⟨vs, h4, h5⟩ := z_obj hw h1 ha
      obtain ⟨v2, h6, h7⟩ := z_SR_get h5 h3
      obtain ⟨⟨C, T, N⟩, k1, k2, k3⟩ := z_fl_ok (tb := tb) (own := (z_y mr).cls) (x3 := x3) (j := j) hokI
      refine va_get (D := D) (ci := ci) (C := C) (T := T) (N := N) hx hb hts (hA.1 ci _ k1).1 hown hK hP a h4 k1 x2 k2 (hts _ k3) (fun _ h9 => h9) h6 hdg (go hev_106 hr hSt ?_ hce hsl)
      exact ⟨⟨lv, hlv, hLR⟩, h7, hSR_103⟩
    | putfield j =>
      have hev : z_h_putfield j cls zty zdv ms (z_ev cls zty zdv ms n) (fun env' => z_ev cls zty zdv ms n lx mr ((q, .putfield j, x1, x2, x3) :: r) q lo st ce sl env' w k) lx mr q x1 x2 x3 r lo st ce sl env w k = true := hev
      unfold z_h_putfield at hev
      have hdg := z_dl hdg hlen rfl
      obtain ⟨v, st1, rfl, hev_107⟩ := z_p1_ok hev
      obtain ⟨a, t, rfl, hev_108⟩ := z_pr_ok hev_107
      obtain ⟨v1, c1, rfl, g0, hSR_109⟩ := z_SR_cons hSR
      obtain ⟨v2, c2, rfl, g1, hSR_110⟩ := z_SR_cons hSR_109
      obtain ⟨adr, ha, rfl⟩ := g1
      obtain ⟨ci, fs, h1, hev_111⟩ := z_ob_ok hev_108
      obtain ⟨h2, hev_112⟩ := z_cond hev_111
      have h2 := Nat.eq_of_beq_eq_true h2
      subst h2
      obtain ⟨v3, h3, hev_113⟩ := z_opl_ok hev_112
      obtain ⟨ty, h3t, hev_114⟩ := z_opl_ok hev_113
      obtain ⟨hft, hev_115⟩ := z_cond hev_114
      have hev_116 := (z_set_eq _ _ _ _).symm.trans hev_115
      have hev_117 := (z_set_eq _ _ _ _).symm.trans hev_116
      obtain ⟨vs, h4, h5⟩ := z_obj hw h1 ha
      obtain ⟨v4, h6, h7⟩ := z_SR_get h5 h3
      obtain ⟨⟨C, T, N⟩, k1, k2, k3, k4⟩ := z_fp_ok (tb := tb) (y := z_y mr) (x3 := x3) (j := j) hokI
      obtain ⟨f1, f2, f3, f4, ty', dv, f5, f6, f7, f8, f9⟩ := hA.1 ci _ k1
      have hty : ty' = ty := Option.some.inj (f5.symm.trans h3t)
      subst hty
      obtain ⟨n1, n2⟩ := z_fit_ok hft g0
      have hl : x2 < vs.length := (List.getElem?_eq_some_iff.mp h6).1
      have hFr1 : z_Fr sg b cw (z_mL mr) ls lo t c2 := ⟨⟨lv, hlv, hLR⟩, hSR_110⟩
      rcases k4 with k4 | ⟨k4, k5⟩
      · refine va_put (D := D) (ci := ci) (C := C) (T := T) (N := N) hx hb hts f1 ty' f7 f2 hown hK hP hD hS0 a h4 k1 x2 k2 (hts _ k3) (fun _ h9 => h9) k4 (f7 x2 k2) n1 n2 hl hdg (fun H1 locs1 hP1 hD1 hS1 => go hev_117 hr (z_St_set h4 hK hP1 hD1 hS1 hw ⟨rfl, z_SR_set g0 x2 h5⟩ he hle) (z_Fr_set h4 hFr1) hce hsl)
      · have hfin : (T x2).2.2.2 = true ∨ (T x2).2.2.2 = false := by cases (T x2).2.2.2 <;> simp
        rcases hfin with hfin | hfin
        · refine va_putF (D := D) (ci := ci) (C := C) (T := T) (N := N) hx hb hts f1 ty' f7 f2 hown hK hP hD hS0 a h4 k1 x2 k2 (hts _ k3) (fun _ h9 => h9) hfin (hin k4) k5 (f7 x2 k2) n1 n2 hl hdg (fun H1 locs1 hP1 hD1 hS1 => go hev_117 hr (z_St_set h4 hK hP1 hD1 hS1 hw ⟨rfl, z_SR_set g0 x2 h5⟩ he hle) (z_Fr_set h4 hFr1) hce hsl)
        · refine va_put (D := D) (ci := ci) (C := C) (T := T) (N := N) hx hb hts f1 ty' f7 f2 hown hK hP hD hS0 a h4 k1 x2 k2 (hts _ k3) (fun _ h9 => h9) hfin (f7 x2 k2) n1 n2 hl hdg (fun H1 locs1 hP1 hD1 hS1 => go hev_117 hr (z_St_set h4 hK hP1 hD1 hS1 hw ⟨rfl, z_SR_set g0 x2 h5⟩ he hle) (z_Fr_set h4 hFr1) hce hsl)
    | new j =>
      have hev : z_h_new j cls zty zdv ms (z_ev cls zty zdv ms n) (fun env' => z_ev cls zty zdv ms n lx mr ((q, .new j, x1, x2, x3) :: r) q lo st ce sl env' w k) lx mr q x1 x2 x3 r lo st ce sl env w k = true := hev
      unfold z_h_new at hev
      have hdg := z_dl hdg hlen rfl
      obtain ⟨⟨C, T, N⟩, h1, hev_118⟩ := z_opl_ok hev
      obtain ⟨dv, h2, hev_119⟩ := z_opl_ok hev_118
      obtain ⟨h3, h4, hev_120⟩ := z_mk_ok hev_119
      obtain ⟨c', k1, k2⟩ := z_nl_ok (tb := tb) (own := (z_y mr).cls) (x3 := x3) (j := j) hokI
      have hc' : c' = (C, T, N) := Option.some.inj (k1.symm.trans h1)
      subst hc'
      obtain ⟨f1, f2, f3, f4, ty, dv', f5, f6, f7, f8, f9⟩ := hA.1 x1 _ k1
      have hdv : dv' = dv := Option.some.inj (f6.symm.trans h2)
      subst hdv
      refine va_new (ci := x1) (fs := dv'.map z_cv) (C := C) (T := T) (N := N) hx hb hts f1 ty f7 hown (hts _ k2) (hts _ f3) (hts _ f4) hK hP hD hS0 hA0 k1 f9 (by rw [hR]; exact h3) (by rw [hR]; exact h4) hdg (fun q1 H1 hP1 hD1 hS1 => go hev_120 hr (z_St_push hK hP1 hD1 hS1 hw (fun _ _ h => h) ⟨rfl, z_cv_all f8⟩ he hle) (z_Fr_push hlv hLR hSR ⟨q1, z_new_ref (x := (q1, .inr (x1, dv'.map z_cv))) hw, rfl⟩) h3 h4)
    | newarray ty =>
      have hev : z_h_newarray ty cls zty zdv ms (z_ev cls zty zdv ms n) (fun env' => z_ev cls zty zdv ms n lx mr ((q, .newarray ty, x1, x2, x3) :: r) q lo st ce sl env' w k) lx mr q x1 x2 x3 r lo st ce sl env w k = true := hev
      unfold z_h_newarray at hev
      have hdg := z_dl hdg hlen rfl
      obtain ⟨a, t, rfl, hev_121⟩ := z_p1_ok hev
      obtain ⟨v1, c2, rfl, g1, hSR_122⟩ := z_SR_cons hSR
      have g1 := z_rs_ok he g1
      rcases z_ks_ok hev_121 with ⟨u, e1, hev_123⟩ | ⟨_, _, hev_123⟩
      · rw [e1] at g1
        have g1 : v1 = .int (nI u) := g1
        subst g1
        obtain ⟨kd, h1, hev_124⟩ := z_op_ok hev_123
        obtain ⟨h2, hev_125⟩ := z_cond hev_124
        have h2 := z_le_of h2
        obtain ⟨h3, h4, hev_126⟩ := z_mk_ok hev_125
        have hn : ¬ nI u < 0 := nI_pos (by omega)
        have hc : (nI u).toNatClampNeg = u := nI_clamp (by omega)
        have hce1 : ce + 1 ≤ R.cells := by rw [hR]; exact h3
        have hsl1 : sl + u ≤ R.slots := by rw [hR]; exact h4
        obtain ⟨a1, a2, a3, a4⟩ := hA.2.1
        cases ty with
        | int =>
          cases h1
          refine va_newa (atype := .int) (a0 := (u, .inl (fun _ => 0))) hx hb (hts _ a1) rfl hK hP hD hS0 hA0 (fun _ => rfl) hn hc (by show u * 4 ≤ _; omega) hce1 hsl1 hdg (fun q1 cA H1 hK1 hP1 hD1 hS1 => go hev_126 hr (z_St_push hK1 hP1 hD1 hS1 hw z_tys_app ⟨rfl, ⟨tys.length, z_tys_new⟩, ⟨_, rfl, fun j => by simp [z_g]; rfl⟩⟩ he hle) (z_Fr_push hlv hLR hSR_122 ⟨q1, z_new_ref (x := (q1, .inl (cA, u, .inl (fun _ => 0)))) hw, rfl⟩) h3 h4)
        | byte =>
          cases h1
          refine va_newa (atype := .byte) (a0 := (u, .inl (fun _ => 0))) hx hb (hts _ a2) rfl hK hP hD hS0 hA0 (fun _ => rfl) hn hc (by show u * 1 ≤ _; omega) hce1 hsl1 hdg (fun q1 cA H1 hK1 hP1 hD1 hS1 => go hev_126 hr (z_St_push hK1 hP1 hD1 hS1 hw z_tys_app ⟨rfl, ⟨tys.length, z_tys_new⟩, ⟨_, rfl, fun j => by simp [z_g]; rfl⟩⟩ he hle) (z_Fr_push hlv hLR hSR_122 ⟨q1, z_new_ref (x := (q1, .inl (cA, u, .inl (fun _ => 0)))) hw, rfl⟩) h3 h4)
        | boolean =>
          cases h1
          refine va_newa (atype := .boolean) (a0 := (u, .inl (fun _ => 0))) hx hb (hts _ a3) rfl hK hP hD hS0 hA0 (fun _ => rfl) hn hc (by show u * 1 ≤ _; omega) hce1 hsl1 hdg (fun q1 cA H1 hK1 hP1 hD1 hS1 => go hev_126 hr (z_St_push hK1 hP1 hD1 hS1 hw z_tys_app ⟨rfl, ⟨tys.length, z_tys_new⟩, ⟨_, rfl, fun j => by simp [z_g]; rfl⟩⟩ he hle) (z_Fr_push hlv hLR hSR_122 ⟨q1, z_new_ref (x := (q1, .inl (cA, u, .inl (fun _ => 0)))) hw, rfl⟩) h3 h4)
        | long =>
          cases h1
          refine va_newa (atype := .long) (a0 := (u, .inr (.inl (fun _ => 0)))) hx hb (hts _ a4) rfl hK hP hD hS0 hA0 (fun _ => rfl) hn hc (by show u * 8 ≤ _; omega) hce1 hsl1 hdg (fun q1 cA H1 hK1 hP1 hD1 hS1 => go hev_126 hr (z_St_push hK1 hP1 hD1 hS1 hw z_tys_app ⟨rfl, ⟨tys.length, z_tys_new⟩, ⟨_, rfl⟩⟩ he hle) (z_Fr_push hlv hLR hSR_122 ⟨q1, z_new_ref (x := (q1, .inl (cA, u, .inr (.inl (fun _ => 0))))) hw, rfl⟩) h3 h4)
        | _ => cases h1
      · cases hev_123
    | anewarray j =>
      have hev : z_h_anewarray j cls zty zdv ms (z_ev cls zty zdv ms n) (fun env' => z_ev cls zty zdv ms n lx mr ((q, .anewarray j, x1, x2, x3) :: r) q lo st ce sl env' w k) lx mr q x1 x2 x3 r lo st ce sl env w k = true := hev
      unfold z_h_anewarray at hev
      have hdg := z_dl hdg hlen rfl
      obtain ⟨a, t, rfl, hev_127⟩ := z_p1_ok hev
      obtain ⟨v1, c2, rfl, g1, hSR_128⟩ := z_SR_cons hSR
      have g1 := z_rs_ok he g1
      rcases z_ks_ok hev_127 with ⟨u, e1, hev_129⟩ | ⟨_, _, hev_129⟩
      · rw [e1] at g1
        have g1 : v1 = .int (nI u) := g1
        subst g1
        obtain ⟨h2, hev_130⟩ := z_cond hev_129
        have h2 := z_le_of h2
        obtain ⟨h3, h4, hev_131⟩ := z_mk_ok hev_130
        have hn : ¬ nI u < 0 := nI_pos (by omega)
        have hc : (nI u).toNatClampNeg = u := nI_clamp (by omega)
        have hce1 : ce + 1 ≤ R.cells := by rw [hR]; exact h3
        have hsl1 : sl + u ≤ R.slots := by rw [hR]; exact h4
        obtain ⟨c', k1, k2, k3⟩ := z_al_ok (tb := tb) (nw := nw) (own := (z_y mr).cls) (x2 := x2) (x3 := x3) (j := j) hokI
        have hcn : z_cn cls x1 = c'.1 := by unfold z_cn; rw [k1]
        have hk : ∀ cA : ClassId, (tys ++ [(cA, FieldType.object c'.1)])[tys.length]? = some (cA, z_kty cls (x1 + 4)) := fun cA => by
          show _ = some (_, FieldType.object (z_cn cls x1))
          rw [hcn]
          exact z_tys_new
        have hdr : ∀ ad : List Nat, z_DR (z_g sg ad b) (x1 + 4) [] (.inr (.inr (.inr (.inr (fun _ => none))))) := fun ad => ⟨fun _ => none, rfl, fun j => by simp [z_g, va_rf]⟩
        exact va_newq hx hb hown (hts _ k2) (hN.2 _ k3) hK hP hD hS0 hA0 hn hc (by omega) hce1 hsl1 hdg (fun q1 cA H1 hK1 hP1 hD1 hS1 => go hev_131 hr (z_St_push hK1 hP1 hD1 hS1 hw z_tys_app ⟨rfl, ⟨tys.length, hk cA⟩, hdr _⟩ he hle) (z_Fr_push hlv hLR hSR_128 ⟨q1, z_new_ref (x := (q1, .inl (cA, u, .inr (.inr (.inr (.inr (fun _ => none))))))) hw, rfl⟩) h3 h4)
      · cases hev_129
    | arraylength =>
      have hev : z_h_arraylength cls zty zdv ms (z_ev cls zty zdv ms n) (fun env' => z_ev cls zty zdv ms n lx mr ((q, .arraylength, x1, x2, x3) :: r) q lo st ce sl env' w k) lx mr q x1 x2 x3 r lo st ce sl env w k = true := hev
      unfold z_h_arraylength at hev
      have hdg := z_dl hdg hlen rfl
      obtain ⟨a, t, rfl, hev_132⟩ := z_p1_ok hev
      obtain ⟨v1, c2, rfl, g1, hSR_133⟩ := z_SR_cons hSR
      rcases z_rsc_ok hev_132 with ⟨a1, rfl, hev_134⟩ | ⟨rfl, hev_134⟩
      · obtain ⟨adr, ha, rfl⟩ := g1
        obtain ⟨kd, n1, pr, h1, hev_135⟩ := z_ar_ok hev_134
        obtain ⟨cA, d, t0, h2, h3, h4⟩ := z_row hw h1 ha
        refine va_alen hx hb hK hP a1 t0 h2 h3 (v := nI n1) rfl hdg (go hev_135 hr hSt ?_ hce hsl)
        exact ⟨⟨lv, hlv, hLR⟩, rfl, hSR_133⟩
      · have g1 : v1 = .ref b := g1
        subst g1
        obtain ⟨L, h1, hev_136⟩ := z_lx_ok hev_134
        obtain ⟨s1, s2, s3⟩ := hscr L h1
        refine va_slen hx hb s1 s2 s3 hS0 hdg (go hev_136 hr hSt ?_ hce hsl)
        exact ⟨⟨lv, hlv, hLR⟩, rfl, hSR_133⟩
    | iaload =>
      have hev : z_h_iaload cls zty zdv ms (z_ev cls zty zdv ms n) (fun env' => z_ev cls zty zdv ms n lx mr ((q, .iaload, x1, x2, x3) :: r) q lo st ce sl env' w k) lx mr q x1 x2 x3 r lo st ce sl env w k = true := hev
      unfold z_h_iaload at hev
      have hdg := z_dl hdg hlen rfl
      obtain ⟨j, st1, rfl, hev_137⟩ := z_p1_ok hev
      obtain ⟨a, t, rfl, hev_138⟩ := z_p1_ok hev_137
      obtain ⟨v0, c1, rfl, g0, hSR_139⟩ := z_SR_cons hSR
      obtain ⟨v1, c2, rfl, g1, hSR_140⟩ := z_SR_cons hSR_139
      rcases z_rsc_ok hev_138 with ⟨a1, rfl, hev_141⟩ | ⟨rfl, hev_141⟩
      · obtain ⟨adr, ha, rfl⟩ := g1
        obtain ⟨kd, n1, pr, h1, hev_142⟩ := z_ar_ok hev_141
        obtain ⟨h0, hev_143⟩ := z_cond hev_142
        have h0 := Nat.eq_of_beq_eq_true h0
        subst h0
        obtain ⟨cA, d, t0, h2, h3, f, rfl, h4⟩ := z_row hw h1 ha
        rcases z_ix_ok hev_143 he g0 with ⟨u, rfl, i1, i2, hev_144⟩ | h
        · refine va_iald hx hb hK hP a1 t0 h2 h3 i1 hdg ?_
          rw [i2]
          exact go ((z_gk_eq _ _ _ _).symm.trans hev_144) hr hSt ⟨⟨lv, hlv, hLR⟩, h4 u, hSR_140⟩ hce hsl
        · exact re h
      · have g1 : v1 = .ref b := g1
        subst g1
        obtain ⟨L, h1, hev_145⟩ := z_lx_ok hev_141
        obtain ⟨s1, s2, s3⟩ := hscr L h1
        rcases z_ix_ok hev_145 he g0 with ⟨u, rfl, i1, i2, hev_146⟩ | h
        · refine va_sld hx hb s1 s2 s3 hS0 i1 hdg ?_
          rw [i2]
          exact go hev_146 hr hSt ⟨⟨lv, hlv, hLR⟩, rfl, hSR_140⟩ hce hsl
        · exact re h
    | baload =>
      have hev : z_h_baload cls zty zdv ms (z_ev cls zty zdv ms n) (fun env' => z_ev cls zty zdv ms n lx mr ((q, .baload, x1, x2, x3) :: r) q lo st ce sl env' w k) lx mr q x1 x2 x3 r lo st ce sl env w k = true := hev
      unfold z_h_baload at hev
      have hdg := z_dl hdg hlen rfl
      obtain ⟨j, st1, rfl, hev_147⟩ := z_p1_ok hev
      obtain ⟨a1, t, rfl, hev_148⟩ := z_pr_ok hev_147
      obtain ⟨v0, c1, rfl, g0, hSR_149⟩ := z_SR_cons hSR
      obtain ⟨v1, c2, rfl, g1, hSR_150⟩ := z_SR_cons hSR_149
      obtain ⟨adr, ha, rfl⟩ := g1
      obtain ⟨kd, n1, pr, h1, hev_151⟩ := z_ar_ok hev_148
      obtain ⟨h0, hev_152⟩ := z_cond hev_151
      rw [Bool.or_eq_true] at h0
      rcases z_ix_ok hev_152 he g0 with ⟨u, rfl, i1, i2, hev_153⟩ | h
      · rcases h0 with h0 | h0
        · have h0 := Nat.eq_of_beq_eq_true h0
          subst h0
          obtain ⟨cA, d, t0, h2, h3, f, rfl, h4⟩ := z_row hw h1 ha
          refine va_bald hx hb hK hP a1 t0 h2 h3 i1 hdg ?_
          rw [i2]
          exact go ((z_gk_eq _ _ _ _).symm.trans hev_153) hr hSt ⟨⟨lv, hlv, hLR⟩, h4 u, hSR_150⟩ hce hsl
        · have h0 := Nat.eq_of_beq_eq_true h0
          subst h0
          obtain ⟨cA, d, t0, h2, h3, f, rfl, h4⟩ := z_row hw h1 ha
          refine va_zald hx hb hK hP a1 t0 h2 h3 i1 hdg ?_
          rw [i2]
          exact go ((z_gk_eq _ _ _ _).symm.trans hev_153) hr hSt ⟨⟨lv, hlv, hLR⟩, h4 u, hSR_150⟩ hce hsl
      · exact re h
    | aaload =>
      have hev : z_h_aaload cls zty zdv ms (z_ev cls zty zdv ms n) (fun env' => z_ev cls zty zdv ms n lx mr ((q, .aaload, x1, x2, x3) :: r) q lo st ce sl env' w k) lx mr q x1 x2 x3 r lo st ce sl env w k = true := hev
      unfold z_h_aaload at hev
      have hdg := z_dl hdg hlen rfl
      obtain ⟨j, st1, rfl, hev_154⟩ := z_p1_ok hev
      obtain ⟨a1, t, rfl, hev_155⟩ := z_pr_ok hev_154
      obtain ⟨v0, c1, rfl, g0, hSR_156⟩ := z_SR_cons hSR
      obtain ⟨v1, c2, rfl, g1, hSR_157⟩ := z_SR_cons hSR_156
      obtain ⟨adr, ha, rfl⟩ := g1
      obtain ⟨kd, n1, pr, h1, hev_158⟩ := z_ar_ok hev_155
      obtain ⟨h0, hev_159⟩ := z_cond hev_158
      have h0 := z_le_of h0
      obtain ⟨kd, rfl⟩ : ∃ k, kd = k + 4 := ⟨kd - 4, by omega⟩
      rcases z_ix_ok hev_159 he g0 with ⟨u, rfl, i1, i2, hev_160⟩ | h
      · obtain ⟨cA, d, t0, h2, h3, f, rfl, h4⟩ := z_row hw h1 ha
        refine va_aldq hx hb hK hP a1 t0 h2 h3 i1 hdg ?_
        rw [i2]
        exact go ((z_gk_eq _ _ _ _).symm.trans hev_160) hr hSt ⟨⟨lv, hlv, hLR⟩, h4 u, hSR_157⟩ hce hsl
      · exact re h
    | iastore =>
      have hev : z_h_iastore cls zty zdv ms (z_ev cls zty zdv ms n) (fun env' => z_ev cls zty zdv ms n lx mr ((q, .iastore, x1, x2, x3) :: r) q lo st ce sl env' w k) lx mr q x1 x2 x3 r lo st ce sl env w k = true := hev
      unfold z_h_iastore at hev
      have hdg := z_dl hdg hlen rfl
      obtain ⟨v, st1, rfl, hev_161⟩ := z_p1_ok hev
      obtain ⟨j, st2, rfl, hev_162⟩ := z_p1_ok hev_161
      obtain ⟨a1, t, rfl, hev_163⟩ := z_pr_ok hev_162
      obtain ⟨vv, c0, rfl, gv, hSR_164⟩ := z_SR_cons hSR
      obtain ⟨v0, c1, rfl, g0, hSR_165⟩ := z_SR_cons hSR_164
      obtain ⟨v1, c2, rfl, g1, hSR_166⟩ := z_SR_cons hSR_165
      obtain ⟨adr, ha, rfl⟩ := g1
      obtain ⟨kd, n1, pr, h1, hev_167⟩ := z_ar_ok hev_163
      obtain ⟨h0, hev_168⟩ := z_cond hev_167
      obtain ⟨h0, hi⟩ := z_and h0
      have h0 := Nat.eq_of_beq_eq_true h0
      subst h0
      obtain ⟨x, rfl⟩ := z_isI_ok hi gv
      obtain ⟨cA, d, t0, h2, h3, f, rfl, h4⟩ := z_row hw h1 ha
      rcases z_ix_ok hev_168 he g0 with ⟨u, rfl, i1, i2, hev_169⟩ | h
      · obtain ⟨pr', p1, p2⟩ := z_pst_eq (β := Bool) (.inl 0) v pr u
        have hev_170 := (p1 _).symm.trans hev_169
        have hev_171 := (z_set_eq _ _ _ _).symm.trans hev_170
        refine va_iast hx hb hK hP hD hS0 a1 t0 h2 h3 i1 hdg (fun H1 locs1 hP1 hD1 hS1 => ?_)
        refine go hev_171 hr (z_St_set h2 hK hP1 hD1 hS1 hw ⟨rfl, ⟨t0, h3⟩, ⟨_, rfl, fun j => ?_⟩⟩ he hle) (z_Fr_set h2 ⟨⟨lv, hlv, hLR⟩, hSR_166⟩) hce hsl
        rw [p2, i2]
        by_cases hj : j = u
        · subst hj; simpa [upd] using gv
        · simpa [upd, hj] using h4 j
      · exact re h
    | bastore =>
      have hev : z_h_bastore cls zty zdv ms (z_ev cls zty zdv ms n) (fun env' => z_ev cls zty zdv ms n lx mr ((q, .bastore, x1, x2, x3) :: r) q lo st ce sl env' w k) lx mr q x1 x2 x3 r lo st ce sl env w k = true := hev
      unfold z_h_bastore at hev
      have hdg := z_dl hdg hlen rfl
      obtain ⟨v, st1, rfl, hev_172⟩ := z_p1_ok hev
      obtain ⟨j, st2, rfl, hev_173⟩ := z_p1_ok hev_172
      obtain ⟨a1, t, rfl, hev_174⟩ := z_pr_ok hev_173
      obtain ⟨vv, c0, rfl, gv, hSR_175⟩ := z_SR_cons hSR
      obtain ⟨v0, c1, rfl, g0, hSR_176⟩ := z_SR_cons hSR_175
      obtain ⟨v1, c2, rfl, g1, hSR_177⟩ := z_SR_cons hSR_176
      obtain ⟨adr, ha, rfl⟩ := g1
      obtain ⟨kd, n1, pr, h1, hev_178⟩ := z_ar_ok hev_174
      cases hc : and (Nat.beq kd 1) (z_isI v) with
      | true =>
        rw [hc] at hev_178
        obtain ⟨h0, hi⟩ := z_and hc
        have h0 := Nat.eq_of_beq_eq_true h0
        subst h0
        obtain ⟨x, rfl⟩ := z_isI_ok hi gv
        obtain ⟨cA, d, t0, h2, h3, f, rfl, h4⟩ := z_row hw h1 ha
        rcases z_ix_ok (k := fun u => _) hev_178 he g0 with ⟨u, rfl, i1, i2, hev_179⟩ | h
        · obtain ⟨pr', p1, p2⟩ := z_pst_eq (β := Bool) (.inl 0) z_any pr u
          have hev_180 := (p1 _).symm.trans hev_179
          have hev_181 := (z_set_eq _ _ _ _).symm.trans hev_180
          refine va_bast hx hb hK hP hD hS0 a1 t0 h2 h3 i1 hdg (fun H1 locs1 hP1 hD1 hS1 => ?_)
          refine go hev_181 hr (z_St_set h2 hK hP1 hD1 hS1 hw ⟨rfl, ⟨t0, h3⟩, ⟨_, rfl, fun j => ?_⟩⟩ he hle) (z_Fr_set h2 ⟨⟨lv, hlv, hLR⟩, hSR_177⟩) hce hsl
          rw [p2, i2]
          by_cases hj : j = u
          · subst hj
            rw [if_pos rfl]
            exact ⟨_, rfl⟩
          · simpa [upd, hj] using h4 j
        · exact re h
      | false =>
        rw [hc] at hev_178
        obtain ⟨h0, hev_182⟩ := z_cond hev_178
        obtain ⟨h0, hi⟩ := z_and h0
        have h0 := Nat.eq_of_beq_eq_true h0
        subst h0
        obtain ⟨cA, d, t0, h2, h3, f, rfl, h4⟩ := z_row hw h1 ha
        have hx2 : ∃ x, vv = .int x ∧ vp_nar .boolean x = x := by
          rcases z_isB_ok hi gv with rfl | rfl
          · exact ⟨0, rfl, by decide⟩
          · exact ⟨1, rfl, by decide⟩
        obtain ⟨x, rfl, hnx⟩ := hx2
        rcases z_ix_ok hev_182 he g0 with ⟨u, rfl, i1, i2, hev_183⟩ | h
        · obtain ⟨pr', p1, p2⟩ := z_pst_eq (β := Bool) (.inl 0) v pr u
          have hev_184 := (p1 _).symm.trans hev_183
          have hev_185 := (z_set_eq _ _ _ _).symm.trans hev_184
          refine va_zast hx hb hK hP hD hS0 a1 t0 h2 h3 i1 hdg (fun H1 locs1 hP1 hD1 hS1 => ?_)
          refine go hev_185 hr (z_St_set h2 hK hP1 hD1 hS1 hw ⟨rfl, ⟨t0, h3⟩, ⟨_, rfl, fun j => ?_⟩⟩ he hle) (z_Fr_set h2 ⟨⟨lv, hlv, hLR⟩, hSR_177⟩) hce hsl
          rw [p2, i2, hnx]
          by_cases hj : j = u
          · subst hj; simpa [upd] using gv
          · simpa [upd, hj] using h4 j
        · exact re h
    | aastore =>
      have hev : z_h_aastore cls zty zdv ms (z_ev cls zty zdv ms n) (fun env' => z_ev cls zty zdv ms n lx mr ((q, .aastore, x1, x2, x3) :: r) q lo st ce sl env' w k) lx mr q x1 x2 x3 r lo st ce sl env w k = true := hev
      unfold z_h_aastore at hev
      have hdg := z_dl hdg hlen rfl
      obtain ⟨b1, st1, rfl, hev_186⟩ := z_pr_ok hev
      obtain ⟨j, st2, rfl, hev_187⟩ := z_p1_ok hev_186
      obtain ⟨a1, t, rfl, hev_188⟩ := z_pr_ok hev_187
      obtain ⟨vv, c0, rfl, gv, hSR_189⟩ := z_SR_cons hSR
      obtain ⟨v0, c1, rfl, g0, hSR_190⟩ := z_SR_cons hSR_189
      obtain ⟨v1, c2, rfl, g1, hSR_191⟩ := z_SR_cons hSR_190
      obtain ⟨adr, ha, rfl⟩ := g1
      have gv0 := gv
      obtain ⟨adb, hb1, rfl⟩ := gv
      obtain ⟨kd, n1, pr, h1, hev_192⟩ := z_ar_ok hev_188
      obtain ⟨ci, fs, h5, hev_193⟩ := z_ob_ok hev_192
      obtain ⟨h0, hev_194⟩ := z_cond hev_193
      have h0 := Nat.eq_of_beq_eq_true h0
      subst h0
      obtain ⟨cA, d, t0, h2, h3, f, rfl, h4⟩ := z_row hw h1 ha
      obtain ⟨vs, h6, h7⟩ := z_obj hw h5 hb1
      rcases z_ix_ok hev_194 he g0 with ⟨u, rfl, i1, i2, hev_195⟩ | h
      · obtain ⟨pr', p1, p2⟩ := z_pst_eq (β := Bool) z_null (z_rf b1) pr u
        have hev_196 := (p1 _).symm.trans hev_195
        have hev_197 := (z_set_eq _ _ _ _).symm.trans hev_196
        cases hcl : cls[ci]? with
        | none =>
          obtain ⟨r0, q1, q2⟩ := hP b1 _ h6
          rw [hcl] at q1
          cases q1
        | some rr =>
          have hcn : z_cn cls ci = rr.1 := by unfold z_cn; rw [hcl]
          have h3' : tys[t0]? = some (cA, .object rr.1) := by rw [← hcn]; exact h3
          refine va_astq hx hb hK hP hD hS0 a1 t0 b1 ci h2 h3' h6 hcl i1 hdg (fun H1 locs1 hP1 hD1 hS1 => ?_)
          refine go hev_197 hr (z_St_set h2 hK hP1 hD1 hS1 hw ⟨rfl, ⟨t0, h3⟩, ⟨_, rfl, fun j => ?_⟩⟩ he hle) (z_Fr_set h2 ⟨⟨lv, hlv, hLR⟩, hSR_191⟩) hce hsl
          rw [p2, i2]
          by_cases hj : j = u
          · subst hj; simpa [va_up, va_rf] using gv0
          · simpa [va_up, hj] using h4 j
      · exact re h
    | ireturn =>
      have hev : z_h_ireturn cls zty zdv ms (z_ev cls zty zdv ms n) (fun env' => z_ev cls zty zdv ms n lx mr ((q, .ireturn, x1, x2, x3) :: r) q lo st ce sl env' w k) lx mr q x1 x2 x3 r lo st ce sl env w k = true := hev
      unfold z_h_ireturn at hev
      have hdg := z_dl hdg hlen rfl
      obtain ⟨a, rfl, hev_198⟩ := z_one_ok hev
      obtain ⟨h1, hev_199⟩ := z_cond hev_198
      obtain ⟨v1, c2, rfl, g1, hSR_200⟩ := z_SR_cons hSR
      have hc2 := z_SR_nil hSR_200
      subst hc2
      refine hend H locs cw tys ls _ q ce sl env w (some a) hSt hce hsl hev_199 (Or.inr (Or.inl ?_))
      unfold z_rti at h1
      split at h1
      · rename_i hrt
        obtain ⟨x, rfl⟩ := z_isI_ok h1 g1
        exact ⟨a, x, .int, rfl, rfl, g1, hrt, rfl, hdg⟩
      · rename_i hrt
        rcases z_isB_ok h1 g1 with rfl | rfl
        · exact ⟨a, 0, .boolean, rfl, rfl, g1, hrt, by decide, hdg⟩
        · exact ⟨a, 1, .boolean, rfl, rfl, g1, hrt, by decide, hdg⟩
      · cases h1
    | areturn =>
      have hev : z_h_areturn cls zty zdv ms (z_ev cls zty zdv ms n) (fun env' => z_ev cls zty zdv ms n lx mr ((q, .areturn, x1, x2, x3) :: r) q lo st ce sl env' w k) lx mr q x1 x2 x3 r lo st ce sl env w k = true := hev
      unfold z_h_areturn at hev
      have hdg := z_dl hdg hlen rfl
      obtain ⟨a, rfl, hev_201⟩ := z_one_ok hev
      obtain ⟨h1, hev_202⟩ := z_cond hev_201
      obtain ⟨v1, c2, rfl, g1, hSR_203⟩ := z_SR_cons hSR
      have hc2 := z_SR_nil hSR_203
      subst hc2
      refine hend H locs cw tys ls _ q ce sl env w (some a) hSt hce hsl hev_202 (Or.inr (Or.inr ?_))
      unfold z_rto at h1
      split at h1
      · rename_i nn hrt
        exact ⟨a, v1, _, rfl, rfl, g1, z_isO_ok h1 g1, hrt, Or.inl ⟨_, rfl⟩, hdg⟩
      · rename_i nn hrt
        exact ⟨a, v1, _, rfl, rfl, g1, z_isO_ok h1 g1, hrt, Or.inr ⟨_, rfl⟩, hdg⟩
      · cases h1
    | return_ =>
      have hev : z_h_return_ cls zty zdv ms (z_ev cls zty zdv ms n) (fun env' => z_ev cls zty zdv ms n lx mr ((q, .return_, x1, x2, x3) :: r) q lo st ce sl env' w k) lx mr q x1 x2 x3 r lo st ce sl env w k = true := hev
      unfold z_h_return_ at hev
      have hdg := z_dl hdg hlen rfl
      obtain ⟨h1, hev_204⟩ := z_cond hev
      cases st with
      | cons a0 t0 => cases h1
      | nil =>
        cases hrt : z_rt mr with
        | some ty => rw [hrt] at h1; cases h1
        | none =>
          have hc2 := z_SR_nil hSR
          subst hc2
          exact hend H locs cw tys ls _ q ce sl env w none hSt hce hsl hev_204 (Or.inl ⟨rfl, rfl, hrt, hdg⟩)
    | invokevirtual j =>
      have hev : z_h_invokevirtual j cls zty zdv ms (z_ev cls zty zdv ms n) (fun env' => z_ev cls zty zdv ms n lx mr ((q, .invokevirtual j, x1, x2, x3) :: r) q lo st ce sl env' w k) lx mr q x1 x2 x3 r lo st ce sl env w k = true := hev
      unfold z_h_invokevirtual at hev
      have hdg := z_dl hdg hlen rfl
      obtain ⟨xs, st1, hn, rfl, hev_205⟩ := z_pop_ok hev
      obtain ⟨a, t, rfl, hev_206⟩ := z_pr_ok hev_205
      obtain ⟨cm, hcm, hev_207⟩ := z_opl_ok hev_206
      obtain ⟨ci, fs, h1, hev_208⟩ := z_ob_ok hev_207
      obtain ⟨h2, hev_209⟩ := z_cond hev_208
      have h2 := Nat.eq_of_beq_eq_true h2
      obtain ⟨cx, c1, rfl, hSx, hSR_210⟩ := z_SR_split hSR
      obtain ⟨v1, ct, rfl, g1, hSR_211⟩ := z_SR_cons hSR_210
      have g1' := g1
      obtain ⟨adr, ha, rfl⟩ := g1
      obtain ⟨vs, h4, h5⟩ := z_obj hw h1 ha
      obtain ⟨⟨⟨p1, p2, p3, p4, hM1⟩, hMc⟩, hM2⟩ := hA.2.2.2 x1 cm hcm
      obtain ⟨m1, m2, m3, m4, m7⟩ := z_okM_ok hMc hM1
      have hokI : (match ms[x1]? with
        | some cm => and (and (Nat.blt (z_ci cm) 100) (decide ((z_y cm).name ≠ "<init>"))) (and (decide ((parseMethodDescriptor (z_y cm).desc).map (fun d => d.parameters.length) = some (x2 % 100))) (z_w tb x3 (.methodLink (z_y mr).cls j (z_y cm))))
        | none => false) = true := hokI
      rw [hcm] at hokI
      obtain ⟨o0, o3⟩ := z_and hokI
      obtain ⟨o1, o2⟩ := z_and o3
      obtain ⟨⟨m8, m9⟩, cq, m5, m6⟩ := m4 (z_lt_of (z_and o0).1)
      have m9 : Jvm.Cond.selects (z_y cm).cls (z_y cm) (z_y cm) ∈ z_G tb := m9.elim (fun z => absurd z (of_decide_eq_true (z_and o0).2)) id
      subst h2
      refine z_call_ok hA hS hF hSt hcm hev_209 (av := .ref adr :: cx.reverse) (ct := ct) ⟨g1', by rw [List.append_nil]; exact z_SR_rev hSx⟩ hSR_211 (fun hcat hRm hf hpre k0 hM => ?_) (fun env' t' w' H1 locs1 cw' tys' ct' hev hSt' hst' hle' q1 q2 => go hev hr hSt' ⟨⟨lv, hlv, z_LR_mono (fun _ _ => z_g_mono hle') hLR⟩, hst'⟩ q1 q2)
      exact va_runV (As := cx.reverse) (rest := ct) (C := (z_y cm).cls) ⟨hx, hb, hml, hown, hts⟩ hM (cwV (x2 % 100) hts (z_goodV m1 (z_w_ok o2) m8 m9 m2) rfl rfl rfl ⟨rfl, m3.1, m3.2, of_decide_eq_true o1⟩ hRm) ⟨hpre.1, by rw [← m6]; exact va_recv hK hP m5 h4, hpre.2⟩ rfl (by rw [List.length_reverse, ← z_SR_len hSx]; exact hn) hlv.1 (by rw [List.reverse_reverse]) (lv_room hcat) hdg hf
    | invokestatic j =>
      have hev : z_h_invokestatic j cls zty zdv ms (z_ev cls zty zdv ms n) (fun env' => z_ev cls zty zdv ms n lx mr ((q, .invokestatic j, x1, x2, x3) :: r) q lo st ce sl env' w k) lx mr q x1 x2 x3 r lo st ce sl env w k = true := hev
      unfold z_h_invokestatic at hev
      have hdg := z_dl hdg hlen rfl
      obtain ⟨xs, t, hn, rfl, hev_212⟩ := z_pop_ok hev
      obtain ⟨cm, hcm, hev_213⟩ := z_opl_ok hev_212
      obtain ⟨cx, ct, rfl, hSx, hSR_214⟩ := z_SR_split hSR
      obtain ⟨⟨⟨p1, p2, p3, p4, hM1⟩, hMc⟩, hM2⟩ := hA.2.2.2 x1 cm hcm
      obtain ⟨m1, m2, m3, m4, m7⟩ := z_okM_ok hMc hM1
      have hokI : (match ms[x1]? with
        | some cm => and (Nat.ble 100 (z_ci cm)) (and (decide ((parseMethodDescriptor (z_y cm).desc).map (fun d => d.parameters.length) = some (x2 % 100))) (cond (Nat.ble 100 x2) (match nw[x3]? with
            | some (.methodLinkNest a b y _) => and (and (decide (a = (z_y mr).cls)) (decide (b = j))) (decide (y = z_y cm))
            | _ => false) (and (z_w tb x3 (.methodLink (z_y mr).cls j (z_y cm))) (decide ((z_y cm).cls = (z_y mr).cls)))))
        | none => false) = true := hokI
      rw [hcm] at hokI
      obtain ⟨o0, o3⟩ := z_and hokI
      obtain ⟨o1, o2⟩ := z_and o3
      have m7 := m7 (z_le_of o0)
      refine z_call_ok hA hS hF hSt hcm hev_213 (av := cx.reverse) (ct := ct) (by rw [List.append_nil]; exact z_SR_rev hSx) hSR_214 (fun hcat hRm hf hpre k0 hM => ?_) (fun env' t' w' H1 locs1 cw' tys' ct' hev hSt' hst' hle' q1 q2 => go hev hr hSt' ⟨⟨lv, hlv, z_LR_mono (fun _ _ => z_g_mono hle') hLR⟩, hst'⟩ q1 q2)
      cases hnest : Nat.ble 100 x2 with
      | true =>
        rw [hnest, cond_true] at o2
        obtain ⟨host, hh⟩ := z_nest_ok o2
        exact va_runSN (As := cx.reverse) (rest := ct) ⟨hx, hb, hml, hown, hts⟩ hM ⟨va_cnB (x2 % 100) hts (z_goodIn m1) rfl rfl rfl (hN.1 _ _ _ _ hh) (hts _ m2) ⟨m3.1, m3.2, of_decide_eq_true o1⟩ hRm, hts _ m7, trivial⟩ hpre rfl (by rw [List.length_reverse, ← z_SR_len hSx]; exact hn) hlv.1 (by rw [List.reverse_reverse]) (lv_room hcat) hdg hf
      | false =>
        rw [hnest, cond_false] at o2
        obtain ⟨o4, o5⟩ := z_and o2
        have o5 := of_decide_eq_true o5
        exact va_runS (As := cx.reverse) (rest := ct) ⟨hx, hb, hml, hown, hts⟩ hM (cwS (x2 % 100) hts (z_goodS m1 (z_w_ok o4) m7 (by rw [← o5]; exact m2)) rfl rfl rfl ⟨o5, m3.1, m3.2, of_decide_eq_true o1⟩ hRm) hpre rfl (by rw [List.length_reverse, ← z_SR_len hSx]; exact hn) hlv.1 (by rw [List.reverse_reverse]) (lv_room hcat) hdg hf
    | invokespecial j =>
      have hev : z_h_invokespecial j cls zty zdv ms (z_ev cls zty zdv ms n) (fun env' => z_ev cls zty zdv ms n lx mr ((q, .invokespecial j, x1, x2, x3) :: r) q lo st ce sl env' w k) lx mr q x1 x2 x3 r lo st ce sl env w k = true := hev
      unfold z_h_invokespecial at hev
      have hdg := z_dl hdg hlen rfl
      have hokI : cond (Nat.beq x2 50) (z_w tb x3 (.methodLink (z_y mr).cls j objectInit)) (match ms[x1]? with
        | some cm => and (and (Nat.blt (z_ci cm) 100) (and (decide ((z_y cm).name = "<init>")) (decide (z_rt cm = none)))) (and (decide ((parseMethodDescriptor (z_y cm).desc).map (fun d => d.parameters.length) = some (x2 % 100))) (cond (Nat.ble 100 x2) (match nw[x3]? with
            | some (.methodLinkNest a b y _) => and (and (decide (a = (z_y mr).cls)) (decide (b = j))) (decide (y = z_y cm))
            | _ => false) (z_w tb x3 (.methodLink (z_y mr).cls j (z_y cm)))))
        | none => false) = true := hokI
      cases h50 : Nat.beq x2 50 with
      | true =>
        rw [h50, cond_true] at hokI
        rw [h50, cond_true] at hev
        obtain ⟨a, t, rfl, hev_215⟩ := z_pr_ok hev
        obtain ⟨v1, ct, rfl, g1, hSR_216⟩ := z_SR_cons hSR
        obtain ⟨adr, ha, rfl⟩ := g1
        obtain ⟨o0, hev_217⟩ := z_cond hev_215
        obtain ⟨o1, o2⟩ := z_and o0
        obtain ⟨o3, o4⟩ := z_and o1
        obtain ⟨o5, o6⟩ := z_and o2
        have hcat : (ct.map fun v => v.category).sum ≤ 8 := by
          rw [z_SR_cat (fun a v h hg => z_c1_ok h hg) o3 hSR_216, ← z_SR_len hSR_216, ← z_len_eq]
          exact z_le_of o4
        have hroom := lv_room (m := m) (pc := q) (ls := ls) (rest := .ref adr :: ct) hcat
        refine W.objInit hx hb hown (hts _ (z_w_ok hokI)) (hts _ hA.2.2.1.1) (hts _ hA.2.2.1.2) rfl (hlv.1.trans hml.symm) rfl hdg (by rw [hR]; exact z_le_of o5) (by rw [hR]; have := z_le_of o6; omega) ?_
        exact go hev_217 hr hSt ⟨⟨lv, hlv, hLR⟩, hSR_216⟩ hce hsl
      | false =>
        rw [h50, cond_false] at hokI
        rw [h50, cond_false] at hev
        obtain ⟨xs, st1, hn, rfl, hev_218⟩ := z_pop_ok hev
        obtain ⟨a, t, rfl, hev_219⟩ := z_pr_ok hev_218
        obtain ⟨cm, hcm, hev_220⟩ := z_opl_ok hev_219
        obtain ⟨cx, c1, rfl, hSx, hSR_221⟩ := z_SR_split hSR
        obtain ⟨v1, ct, rfl, g1, hSR_222⟩ := z_SR_cons hSR_221
        have g1' := g1
        obtain ⟨adr, ha, rfl⟩ := g1
        obtain ⟨⟨⟨p1, p2, p3, p4, hM1⟩, hMc⟩, hM2⟩ := hA.2.2.2 x1 cm hcm
        obtain ⟨m1, m2, m3, m4, m7⟩ := z_okM_ok hMc hM1
        rw [hcm] at hokI
        obtain ⟨o0, o3⟩ := z_and hokI
        obtain ⟨o1, o2⟩ := z_and o3
        obtain ⟨o4, o5⟩ := z_and o0
        obtain ⟨⟨m8, m9⟩, cq, m5, m6⟩ := m4 (z_lt_of o4)
        have hini := of_decide_eq_true (z_and o5).1
        have hrt := of_decide_eq_true (z_and o5).2
        refine z_call_ok hA hS hF hSt hcm hev_220 (av := .ref adr :: cx.reverse) (ct := ct) ⟨g1', by rw [List.append_nil]; exact z_SR_rev hSx⟩ hSR_222 (fun hcat hRm hf hpre k0 hM => ?_) (fun env' t' w' H1 locs1 cw' tys' ct' hev hSt' hst' hle' q1 q2 => go hev hr hSt' ⟨⟨lv, hlv, z_LR_mono (fun _ _ => z_g_mono hle') hLR⟩, hst'⟩ q1 q2)
        have hws : z_ws tb cm = Jvm.Cond.code (z_y cm) (z_cc cm) (z_mL cm) none :: z_G tb := by unfold z_ws; rw [hrt]
        cases hnest : Nat.ble 100 x2 with
        | true =>
          rw [hnest, cond_true] at o2
          obtain ⟨host, hh⟩ := z_nest_ok o2
          exact va_runIN (As := cx.reverse) (rest := ct) ⟨hx, hb, hml, hown, hts⟩ hM ⟨va_cnB (x2 % 100) hts (z_goodIn m1) hws rfl rfl (hN.1 _ _ _ _ hh) (hts _ m2) ⟨m3.1, m3.2, of_decide_eq_true o1⟩ hRm, hini, hts _ m8⟩ hpre rfl (by rw [List.length_reverse, ← z_SR_len hSx]; exact hn) hlv.1 (by rw [List.reverse_reverse]) (lv_room hcat) hdg hf
        | false =>
          rw [hnest, cond_false] at o2
          exact va_runI (As := cx.reverse) (rest := ct) ⟨hx, hb, hml, hown, hts⟩ hM (cwI (x2 % 100) hts (z_goodIn m1) hws rfl rfl (hts _ m2) (hts _ (z_w_ok o2)) (hts _ m8) hini ⟨m3.1, m3.2, of_decide_eq_true o1⟩ hRm) hpre rfl (by rw [List.length_reverse, ← z_SR_len hSx]; exact hn) hlv.1 (by rw [List.reverse_reverse]) (lv_room hcat) hdg hf
    | _ => exact absurd (show false = true from hev) Bool.false_ne_true
