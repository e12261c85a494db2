-- rows and fields seen as functions; laws over them
abbrev yVw : Type := (Nat → Nat → Int32) × (Nat → Nat → Int32)
def y_row (cw : va_W) (r : Nat) : Nat → Int32 := match cw[r]? with
  | some (_, .inl (_, _, .inl f)) => f
  | _ => fun _ => 0
def y_fld (cw : va_W) (c f : Nat) : Int32 := match cw[c]? with
  | some (_, .inr (_, vs)) => (match vs[f]? with
    | some (.int x) => x
    | _ => 0)
  | _ => 0
def y_hasR (cw : va_W) (r : Nat) : Prop := ∃ (a : Nat) (cA : ClassId) (len : Nat) (f : Nat → Int32), cw[r]? = some (a, .inl (cA, len, .inl f))
def y_hasF (cw : va_W) (c f : Nat) : Prop := ∃ (a ci : Nat) (vs : List Value) (x : Int32), cw[c]? = some (a, .inr (ci, vs)) ∧ vs[f]? = some (.int x)
def y_vws (sR : List Nat) (sF : List (Nat × Nat)) (cw : va_W) : yVw := (fun r => if r ∈ sR then y_row cw r else fun _ => 0, fun c f => if (c, f) ∈ sF then y_fld cw c f else 0)
def y_pres (sR : List Nat) (sF : List (Nat × Nat)) (cw : va_W) : Prop := (∀ r ∈ sR, y_hasR cw r) ∧ ∀ q ∈ sF, y_hasF cw q.1 q.2
def y_KV (sR : List Nat) (sF : List (Nat × Nat)) (P : yVw → Prop) (cw : va_W) : Prop := y_pres sR sF cw ∧ P (y_vws sR sF cw)
/-- the support lies outside of what may be written, and within the shape -/
def y_out (n0 : Nat) (wr : yWr) (sR : List Nat) (sF : List (Nat × Nat)) : Prop := (∀ r ∈ sR, r < n0 ∧ r ∉ wr.2.1) ∧ ∀ q ∈ sF, q.1 < n0 ∧ q ∉ wr.1
theorem y_row_eq {cw : va_W} {r a len : Nat} {cA : ClassId} {f : Nat → Int32} (h : cw[r]? = some (a, .inl (cA, len, .inl f))) : y_row cw r = f := by
  unfold y_row
  rw [h]
theorem y_fld_eq {cw : va_W} {c f a ci : Nat} {vs : List Value} {x : Int32} (h : cw[c]? = some (a, .inr (ci, vs))) (h2 : vs[f]? = some (.int x)) : y_fld cw c f = x := by
  unfold y_fld
  rw [h]
  dsimp only
  rw [h2]
section YW
variable {n0 : Nat} {wr : yWr} {sR : List Nat} {sF : List (Nat × Nat)}
theorem y_vw_same {cw cw' : va_W} (ho : y_out n0 wr sR sF) (hs : y_same n0 wr cw cw') (hp : y_pres sR sF cw) : y_pres sR sF cw' ∧ y_vws sR sF cw' = y_vws sR sF cw := by
  have hR : ∀ r ∈ sR, ∃ (a : Nat) (cA : ClassId) (len : Nat) (f : Nat → Int32), cw[r]? = some (a, .inl (cA, len, .inl f)) ∧ cw'[r]? = some (a, .inl (cA, len, .inl f)) := fun r hr => by
    obtain ⟨a, cA, len, f, h⟩ := hp.1 r hr
    have o := ho.1 r hr
    exact ⟨a, cA, len, f, h, hs.2.2 r _ h ⟨_, rfl⟩ (fun _ => o.2) (fun z => by omega)⟩
  have hF : ∀ q ∈ sF, ∃ (x : Int32), (∃ (a ci : Nat) (vs : List Value), cw[q.1]? = some (a, .inr (ci, vs)) ∧ vs[q.2]? = some (.int x)) ∧ ∃ (a ci : Nat) (vs : List Value), cw'[q.1]? = some (a, .inr (ci, vs)) ∧ vs[q.2]? = some (.int x) := fun q hq => by
    obtain ⟨a, ci, vs, x, h1, h2⟩ := hp.2 q hq
    have o := ho.2 q hq
    obtain ⟨vs', g1, g2⟩ := hs.2.1 q.1 a ci vs h1
    exact ⟨x, ⟨a, ci, vs, h1, h2⟩, a, ci, vs', g1, by rw [g2 q.2 (fun _ => o.2) (fun z => by omega)]; exact h2⟩
  refine ⟨⟨fun r hr => ?_, fun q hq => ?_⟩, ?_⟩
  · obtain ⟨a, cA, len, f, _, h⟩ := hR r hr
    exact ⟨a, cA, len, f, h⟩
  · obtain ⟨x, _, a, ci, vs, h1, h2⟩ := hF q hq
    exact ⟨a, ci, vs, x, h1, h2⟩
  · unfold y_vws
    refine Prod.ext (funext fun r => ?_) (funext fun c => funext fun f => ?_)
    · dsimp only
      by_cases hr : r ∈ sR
      · rw [if_pos hr, if_pos hr]
        obtain ⟨a, cA, len, f, h1, h2⟩ := hR r hr
        rw [y_row_eq h1, y_row_eq h2]
      · rw [if_neg hr, if_neg hr]
    · dsimp only
      by_cases hr : (c, f) ∈ sF
      · rw [if_pos hr, if_pos hr]
        obtain ⟨x, ⟨a, ci, vs, h1, h2⟩, a', ci', vs', h3, h4⟩ := hF _ hr
        rw [y_fld_eq h1 h2, y_fld_eq h3 h4]
      · rw [if_neg hr, if_neg hr]
theorem y_KV_st {P : yVw → Prop} {tb : yTb} (ho : y_out tb.1.length (y_plw tb.2.2.2.2.2) sR sF) : y_Kst tb (y_KV sR sF P) := fun cw cw' hs hk => by
  obtain ⟨h1, h2⟩ := y_vw_same ho hs hk.1
  exact ⟨h1, by rw [h2]; exact hk.2⟩
/-- what has been written, seen so -/
def y_va : List (Nat × Nat × Nat) → List Int32 → yVw → yVw
  | (0, r, _) :: ps, x :: y :: gs, V => (fun r' => if r' = r then upd ((y_va ps gs V).1 r) x.toNatClampNeg y else (y_va ps gs V).1 r', (y_va ps gs V).2)
  | (1, r, fl) :: ps, _ :: y :: gs, V => ((y_va ps gs V).1, fun c f => if c = r ∧ f = fl then y else (y_va ps gs V).2 c f)
  | (2, _, _) :: ps, _ :: _ :: gs, V => y_va ps gs V
  | (3, _, _) :: ps, _ :: _ :: gs, V => y_va ps gs V
  | _, _, V => V
def y_vo : List (Nat × Nat × Nat) → List Int32 → yVw → Prop
  | [], [], _ => True
  | (0, _, _) :: ps, x :: _ :: gs, V => x.toNatClampNeg + 2147483648 = z_b x ∧ y_vo ps gs V
  | (1, _, _) :: ps, _ :: _ :: gs, V => y_vo ps gs V
  | (2, r, _) :: ps, x :: y :: gs, V => x.toNatClampNeg + 2147483648 = z_b x ∧ y = (y_va ps gs V).1 r x.toNatClampNeg ∧ y_vo ps gs V
  | (3, r, fl) :: ps, _ :: y :: gs, V => y = (y_va ps gs V).2 r fl ∧ y_vo ps gs V
  | _, _, _ => False
def y_pin (sR : List Nat) (sF : List (Nat × Nat)) (p : Nat × Nat × Nat) : Prop := (p.1 = 0 ∨ p.1 = 2 → p.2.1 ∈ sR) ∧ (p.1 = 1 ∨ p.1 = 3 → (p.2.1, p.2.2) ∈ sF)
theorem y_vw_row {cw : va_W} {r a len : Nat} {cA : ClassId} {f f' : Nat → Int32} (hr : r ∈ sR) (h : cw[r]? = some (a, .inl (cA, len, .inl f))) (hp : y_pres sR sF cw) : y_pres sR sF (cw.set r (a, .inl (cA, len, .inl f'))) ∧ y_vws sR sF (cw.set r (a, .inl (cA, len, .inl f'))) = (fun r' => if r' = r then f' else (y_vws sR sF cw).1 r', (y_vws sR sF cw).2) := by
  have hl : r < cw.length := (List.getElem?_eq_some_iff.mp h).1
  have hF : ∀ q ∈ sF, q.1 ≠ r := fun q hq e => by
    obtain ⟨a', ci, vs, x, h1, _⟩ := hp.2 q hq
    rw [e, h] at h1
    cases h1
  refine ⟨⟨fun r' hr' => ?_, fun q hq => ?_⟩, Prod.ext (funext fun r' => ?_) (funext fun c => funext fun g => ?_)⟩
  · by_cases e : r = r'
    · subst e
      exact ⟨a, cA, len, f', List.getElem?_set_self hl⟩
    · obtain ⟨a', cA', len', f'', h1⟩ := hp.1 r' hr'
      exact ⟨a', cA', len', f'', by rw [List.getElem?_set_ne e]; exact h1⟩
  · obtain ⟨a', ci, vs, x, h1, h2⟩ := hp.2 q hq
    exact ⟨a', ci, vs, x, by rw [List.getElem?_set_ne (Ne.symm (hF q hq))]; exact h1, h2⟩
  · unfold y_vws
    dsimp only
    by_cases e : r' = r
    · subst e
      rw [if_pos hr, if_pos rfl, y_row_eq (List.getElem?_set_self hl)]
    · rw [if_neg e]
      by_cases hs : r' ∈ sR
      · rw [if_pos hs, if_pos hs]
        obtain ⟨a', cA', len', f'', h1⟩ := hp.1 r' hs
        rw [y_row_eq h1, y_row_eq (by rw [List.getElem?_set_ne (Ne.symm e)]; exact h1)]
      · rw [if_neg hs, if_neg hs]
  · unfold y_vws
    dsimp only
    by_cases hs : (c, g) ∈ sF
    · rw [if_pos hs, if_pos hs]
      obtain ⟨a', ci, vs, x, h1, h2⟩ := hp.2 _ hs
      rw [y_fld_eq h1 h2, y_fld_eq (by rw [List.getElem?_set_ne (Ne.symm (hF _ hs))]; exact h1) h2]
    · rw [if_neg hs, if_neg hs]
theorem y_vw_fld {cw : va_W} {r a ci fl : Nat} {vs : List Value} {y : Int32} (hr : (r, fl) ∈ sF) (h : cw[r]? = some (a, .inr (ci, vs))) (hp : y_pres sR sF cw) : y_pres sR sF (cw.set r (a, .inr (ci, vs.set fl (.int y)))) ∧ y_vws sR sF (cw.set r (a, .inr (ci, vs.set fl (.int y)))) = ((y_vws sR sF cw).1, fun c f => if c = r ∧ f = fl then y else (y_vws sR sF cw).2 c f) := by
  have hl : r < cw.length := (List.getElem?_eq_some_iff.mp h).1
  have hfl : fl < vs.length := by
    obtain ⟨a', ci', vs', x, h1, h2⟩ := hp.2 _ hr
    rw [h] at h1
    cases h1
    exact (List.getElem?_eq_some_iff.mp h2).1
  have hR : ∀ q ∈ sR, q ≠ r := fun q hq e => by
    obtain ⟨a', cA, len, f, h1⟩ := hp.1 q hq
    rw [e, h] at h1
    cases h1
  have hF : ∀ q ∈ sF, ∃ a' ci' vs', (cw.set r (a, .inr (ci, vs.set fl (.int y))))[q.1]? = some (a', .inr (ci', vs')) ∧ vs'[q.2]? = some (.int (if q.1 = r ∧ q.2 = fl then y else y_fld cw q.1 q.2)) := fun q hq => by
    obtain ⟨a', ci', vs', x, h1, h2⟩ := hp.2 q hq
    by_cases e : q.1 = r
    · refine ⟨a, ci, vs.set fl (.int y), by rw [e]; exact List.getElem?_set_self hl, ?_⟩
      rw [e, h] at h1
      cases h1
      by_cases e2 : q.2 = fl
      · rw [if_pos ⟨e, e2⟩, e2]
        exact List.getElem?_set_self hfl
      · rw [if_neg (fun z => e2 z.2), List.getElem?_set_ne (Ne.symm e2), h2, y_fld_eq (by rw [e]; exact h) h2]
    · refine ⟨a', ci', vs', by rw [List.getElem?_set_ne (Ne.symm e)]; exact h1, ?_⟩
      rw [if_neg (fun z => e z.1), y_fld_eq h1 h2]
      exact h2
  refine ⟨⟨fun r' hr' => ?_, fun q hq => ?_⟩, Prod.ext (funext fun r' => ?_) (funext fun c => funext fun g => ?_)⟩
  · obtain ⟨a', cA', len', f'', h1⟩ := hp.1 r' hr'
    exact ⟨a', cA', len', f'', by rw [List.getElem?_set_ne (Ne.symm (hR r' hr'))]; exact h1⟩
  · obtain ⟨a', ci', vs', h1, h2⟩ := hF q hq
    exact ⟨a', ci', vs', _, h1, h2⟩
  · unfold y_vws
    dsimp only
    by_cases hs : r' ∈ sR
    · rw [if_pos hs, if_pos hs]
      obtain ⟨a', cA', len', f'', h1⟩ := hp.1 r' hs
      rw [y_row_eq h1, y_row_eq (by rw [List.getElem?_set_ne (Ne.symm (hR r' hs))]; exact h1)]
    · rw [if_neg hs, if_neg hs]
  · unfold y_vws
    dsimp only
    by_cases hs : (c, g) ∈ sF
    · obtain ⟨a', ci', vs', h1, h2⟩ := hF _ hs
      rw [if_pos hs, if_pos hs, y_fld_eq h1 h2]
    · rw [if_neg hs, if_neg hs, if_neg (fun z => hs (by rw [z.1, z.2]; exact hr))]
theorem y_lgc_v {cwB : va_W} (ho : y_out n0 wr sR sF) (hB : y_pres sR sF cwB) : ∀ {pat : List (Nat × Nat × Nat)} {gs : List Int32} {cw : va_W}, (∀ p ∈ pat, y_pin sR sF p) → y_lgc n0 wr cwB pat gs cw → y_pres sR sF cw ∧ y_vws sR sF cw = y_va pat gs (y_vws sR sF cwB) ∧ y_vo pat gs (y_vws sR sF cwB)
  | [], [], cw, _, h => by
    obtain ⟨h1, h2⟩ := y_vw_same ho h hB
    exact ⟨h1, h2, trivial⟩
  | (0, r, q) :: pat, x :: y :: gs, cw, hp, ⟨cwm, a, cA, len, f, h1, h2, h3, h4, h5⟩ => by
    obtain ⟨k1, k2, k3⟩ := y_lgc_v ho hB (fun p hq => hp p (List.mem_cons_of_mem _ hq)) h1
    have hr : r ∈ sR := (hp _ List.mem_cons_self).1 (Or.inl rfl)
    obtain ⟨j1, j2⟩ := y_vw_row (f' := upd f x.toNatClampNeg y) hr h3 k1
    obtain ⟨i1, i2⟩ := y_vw_same ho h5 j1
    refine ⟨i1, ?_, h4, k3⟩
    rw [i2, j2, k2]
    show _ = (fun r' => if r' = r then upd ((y_va pat gs (y_vws sR sF cwB)).1 r) x.toNatClampNeg y else (y_va pat gs (y_vws sR sF cwB)).1 r', (y_va pat gs (y_vws sR sF cwB)).2)
    rw [← k2, show (y_vws sR sF cwm).1 r = f by unfold y_vws; dsimp only; rw [if_pos hr, y_row_eq h3]]
  | (1, r, fl) :: pat, x :: y :: gs, cw, hp, ⟨cwm, a, ci, vs, h1, h2, h3, h5⟩ => by
    obtain ⟨k1, k2, k3⟩ := y_lgc_v ho hB (fun p hq => hp p (List.mem_cons_of_mem _ hq)) h1
    have hr : (r, fl) ∈ sF := (hp _ List.mem_cons_self).2 (Or.inl rfl)
    obtain ⟨j1, j2⟩ := y_vw_fld (y := y) hr h3 k1
    obtain ⟨i1, i2⟩ := y_vw_same ho h5 j1
    refine ⟨i1, ?_, k3⟩
    rw [i2, j2, k2]
    rfl
  | (2, r, q) :: pat, x :: y :: gs, cw, hp, ⟨cwm, a, cA, len, f, h1, h2, h3, h4, h5, h6⟩ => by
    obtain ⟨k1, k2, k3⟩ := y_lgc_v ho hB (fun p hq => hp p (List.mem_cons_of_mem _ hq)) h1
    have hr : r ∈ sR := (hp _ List.mem_cons_self).1 (Or.inr rfl)
    obtain ⟨i1, i2⟩ := y_vw_same ho h6 k1
    refine ⟨i1, by rw [i2, k2]; rfl, h4, ?_, k3⟩
    rw [← k2, show (y_vws sR sF cwm).1 r = f by unfold y_vws; dsimp only; rw [if_pos hr, y_row_eq h3]]
    exact h5
  | (3, r, fl) :: pat, x :: y :: gs, cw, hp, ⟨cwm, a, ci, vs, h1, h2, h3, h4, h5⟩ => by
    obtain ⟨k1, k2, k3⟩ := y_lgc_v ho hB (fun p hq => hp p (List.mem_cons_of_mem _ hq)) h1
    have hr : (r, fl) ∈ sF := (hp _ List.mem_cons_self).2 (Or.inr rfl)
    obtain ⟨i1, i2⟩ := y_vw_same ho h5 k1
    refine ⟨i1, by rw [i2, k2]; rfl, ?_, k3⟩
    rw [← k2, show (y_vws sR sF cwm).2 r fl = y by unfold y_vws; dsimp only; rw [if_pos hr, y_fld_eq h3 h4]]
-- items over views
def y_pV (V : yVw) (lv : List (Nat × Value)) (gs : List Int32) (pl : yPl) (x : Int32) : Prop := match pl.1 with
  | 0 => lv.lookup pl.2.1 = some (.int x)
  | 1 => x = V.2 pl.2.1 pl.2.2.1
  | 2 => x = nI pl.2.1
  | _ => gs[pl.2.1]? = some x
def y_AV (V : yVw) (lv : List (Nat × Value)) : List Int32 → List yIt → Prop
  | _, [] => True
  | gs, .inl e :: is => ∃ x y, y_pV V lv gs e.1 x ∧ x.toNatClampNeg + 2147483648 = z_b x ∧ y = V.1 e.2.1 x.toNatClampNeg ∧ y_in e.2.2 (z_b y) ∧ y_AV V lv (gs ++ [y]) is
  | gs, .inr e :: is => ∃ x y, y_pV V lv gs e.2.1 x ∧ y_pV V lv gs e.2.2.1 y ∧ y_in e.2.2.2 (z_b (y_op e.1 x y)) ∧ y_AV V lv (gs ++ [y_op e.1 x y]) is
def y_AVr (V : yVw) (lv : List (Nat × Value)) : List Int32 → List yIt → List Int32 → Prop
  | gs, [], gs' => gs' = gs
  | gs, .inl e :: is, gs' => ∃ x y, y_pV V lv gs e.1 x ∧ x.toNatClampNeg + 2147483648 = z_b x ∧ y = V.1 e.2.1 x.toNatClampNeg ∧ y_in e.2.2 (z_b y) ∧ y_AVr V lv (gs ++ [y]) is gs'
  | gs, .inr e :: is, gs' => ∃ x y, y_pV V lv gs e.2.1 x ∧ y_pV V lv gs e.2.2.1 y ∧ y_in e.2.2.2 (z_b (y_op (e.1 % 100) x y)) ∧ y_AVr V lv (gs ++ [y_op (e.1 % 100) x y]) is gs'
def y_plk (sF : List (Nat × Nat)) (pl : yPl) : Bool := pl.2.2.2.isEmpty && (pl.1 != 1 || sF.contains (pl.2.1, pl.2.2.1))
def y_itk (sR : List Nat) (sF : List (Nat × Nat)) (i : yIt) : Bool := match i with
  | .inl e => y_plk sF e.1 && sR.contains e.2.1
  | .inr e => y_plk sF e.2.1 && y_plk sF e.2.2.1
theorem y_plV {cw : va_W} {lv : List (Nat × Value)} {gs : List Int32} {pl : yPl} {x : Int32} (hk : y_plk sF pl = true) (h : y_pls n0 gs lv cw pl x) : y_pV (y_vws sR sF cw) lv gs pl x := by
  obtain ⟨kd, c, f, rows⟩ := pl
  obtain ⟨h1, h2⟩ := z_and hk
  have hr : rows = [] := List.isEmpty_iff.mp h1
  subst hr
  obtain ⟨z, g1, g2⟩ := h
  have g2 : x = z := g2
  subst g2
  match kd, h2, g1 with
  | 0, _, g1 => exact g1
  | 1, h2, ⟨_, a, ci, vs, g3, g4⟩ =>
    have hm : (c, f) ∈ sF := by simpa using h2
    show x = if (c, f) ∈ sF then y_fld cw c f else 0
    rw [if_pos hm, y_fld_eq g3 g4]
  | 2, _, g1 => exact g1
  | n + 3, _, g1 => exact g1
theorem y_Vpl {cw : va_W} {lv : List (Nat × Value)} {gs : List Int32} {pl : yPl} {x : Int32} (hn : ∀ q ∈ sF, q.1 < n0) (hp : y_pres sR sF cw) (hk : y_plk sF pl = true) (h : y_pV (y_vws sR sF cw) lv gs pl x) : y_pls n0 gs lv cw pl x := by
  obtain ⟨kd, c, f, rows⟩ := pl
  obtain ⟨h1, h2⟩ := z_and hk
  have hr : rows = [] := List.isEmpty_iff.mp h1
  subst hr
  refine ⟨x, ?_, rfl⟩
  match kd, h2, h with
  | 0, _, h => exact h
  | 1, h2, h =>
    have hm : (c, f) ∈ sF := by simpa using h2
    have h : x = if (c, f) ∈ sF then y_fld cw c f else 0 := h
    rw [if_pos hm] at h
    obtain ⟨a, ci, vs, z, g1, g2⟩ := hp.2 _ hm
    rw [y_fld_eq g1 g2] at h
    exact ⟨hn _ hm, a, ci, vs, g1, by rw [h]; exact g2⟩
  | 2, _, h => exact h
  | n + 3, _, h => exact h
theorem y_prV {cw : va_W} {r : Nat} {x y : Int32} (hr : r ∈ sR) (h : y_prw n0 cw [r] x y) : x.toNatClampNeg + 2147483648 = z_b x ∧ y = (y_vws sR sF cw).1 r x.toNatClampNeg := by
  obtain ⟨a, cA, len, f, _, g1, g2, g3⟩ := h
  have g3 : y = f x.toNatClampNeg := g3
  refine ⟨g2, ?_⟩
  show y = (if r ∈ sR then y_row cw r else fun _ => 0) x.toNatClampNeg
  rw [if_pos hr, y_row_eq g1, g3]
theorem y_AI_V {cw : va_W} {lv : List (Nat × Value)} : ∀ {is : List yIt} {gs : List Int32}, (∀ i ∈ is, y_itk sR sF i = true) → y_AI n0 lv cw gs is → y_AV (y_vws sR sF cw) lv gs is
  | [], _, _, _ => trivial
  | .inl e :: is, gs, hk, ⟨x, y, h1, h2, h3, h4⟩ => by
    obtain ⟨c1, c2⟩ := z_and (hk _ List.mem_cons_self)
    obtain ⟨g1, g2⟩ := y_prV (sF := sF) (by simpa using c2) h2
    exact ⟨x, y, y_plV c1 h1, g1, g2, h3, y_AI_V (fun i hi => hk i (List.mem_cons_of_mem _ hi)) h4⟩
  | .inr e :: is, gs, hk, ⟨x, y, h1, h2, h3, h4⟩ => by
    obtain ⟨c1, c2⟩ := z_and (hk _ List.mem_cons_self)
    exact ⟨x, y, y_plV c1 h1, y_plV c2 h2, h3, y_AI_V (fun i hi => hk i (List.mem_cons_of_mem _ hi)) h4⟩
theorem y_AIr_V {cw : va_W} {lv : List (Nat × Value)} : ∀ {is : List yIt} {gs gs' : List Int32}, (∀ i ∈ is, y_itk sR sF i = true) → y_AIr n0 lv cw gs is gs' → y_AVr (y_vws sR sF cw) lv gs is gs'
  | [], _, _, _, h => h
  | .inl e :: is, gs, gs', hk, ⟨x, y, h1, h2, h3, h4⟩ => by
    obtain ⟨c1, c2⟩ := z_and (hk _ List.mem_cons_self)
    obtain ⟨g1, g2⟩ := y_prV (sF := sF) (by simpa using c2) h2
    exact ⟨x, y, y_plV c1 h1, g1, g2, h3, y_AIr_V (fun i hi => hk i (List.mem_cons_of_mem _ hi)) h4⟩
  | .inr e :: is, gs, gs', hk, ⟨x, y, h1, h2, h3, h4⟩ => by
    obtain ⟨c1, c2⟩ := z_and (hk _ List.mem_cons_self)
    exact ⟨x, y, y_plV c1 h1, y_plV c2 h2, h3, y_AIr_V (fun i hi => hk i (List.mem_cons_of_mem _ hi)) h4⟩
theorem y_V_AI {cw : va_W} {lv : List (Nat × Value)} (hn : (∀ r ∈ sR, r < n0) ∧ ∀ q ∈ sF, q.1 < n0) (hp : y_pres sR sF cw) : ∀ {is : List yIt} {gs : List Int32}, (∀ i ∈ is, y_itk sR sF i = true) → y_AV (y_vws sR sF cw) lv gs is → y_AI n0 lv cw gs is
  | [], _, _, _ => trivial
  | .inl e :: is, gs, hk, ⟨x, y, h1, h2, h2', h3, h4⟩ => by
    obtain ⟨c1, c2⟩ := z_and (hk _ List.mem_cons_self)
    have hr : e.2.1 ∈ sR := by simpa using c2
    obtain ⟨a, cA, len, f, g⟩ := hp.1 _ hr
    have h2' : y = (if e.2.1 ∈ sR then y_row cw e.2.1 else fun _ => 0) x.toNatClampNeg := h2'
    rw [if_pos hr, y_row_eq g] at h2'
    exact ⟨x, y, y_Vpl hn.2 hp c1 h1, ⟨a, cA, len, f, hn.1 _ hr, g, h2, h2'⟩, h3, y_V_AI hn hp (fun i hi => hk i (List.mem_cons_of_mem _ hi)) h4⟩
  | .inr e :: is, gs, hk, ⟨x, y, h1, h2, h3, h4⟩ => by
    obtain ⟨c1, c2⟩ := z_and (hk _ List.mem_cons_self)
    exact ⟨x, y, y_Vpl hn.2 hp c1 h1, y_Vpl hn.2 hp c2 h2, h3, y_V_AI hn hp (fun i hi => hk i (List.mem_cons_of_mem _ hi)) h4⟩
def y_LwV (P : yVw → Prop) (m : Nat) (L : yLw) : Prop := ∀ (V : yVw) (lv : List (Nat × Value)) (gs gs' : List Int32), gs.length = m → P V → y_AVr V lv gs L.1 gs' → ∃ al ∈ L.2, y_AV V lv gs' al
theorem y_LwV_ok {cls : List vw_C} {tb : yTb} {P : yVw → Prop} {m : Nat} {L : yLw} (hn : (∀ r ∈ sR, r < tb.1.length) ∧ ∀ q ∈ sF, q.1 < tb.1.length) (hk : (L.1.all (y_itk sR sF) && L.2.all fun al => al.all (y_itk sR sF)) = true) (h : y_LwV P m L) : y_LwT cls tb (y_KV sR sF P) m L := by
  intro cw tys tg lv gs gs' hm _ hK hA
  obtain ⟨k1, k2⟩ := z_and hk
  obtain ⟨al, ha, hal⟩ := h _ lv gs gs' hm hK.2 (y_AIr_V (List.all_eq_true.mp k1) hA)
  exact ⟨al, ha, y_V_AI hn hK.1 (List.all_eq_true.mp (List.all_eq_true.mp k2 al ha)) hal⟩
def y_ClV (P : yVw → Prop) (C : yCl) : Prop := ∀ (V : yVw) (lv : List (Nat × Value)) (gs : List Int32), P V → y_vo C.1 gs V → y_AV (y_va C.1 gs V) lv gs C.2 → P (y_va C.1 gs V)
def y_pnk (sR : List Nat) (sF : List (Nat × Nat)) (p : Nat × Nat × Nat) : Bool := match p.1 with
  | 0 => sR.contains p.2.1
  | 1 => sF.contains (p.2.1, p.2.2)
  | 2 => sR.contains p.2.1
  | _ => sF.contains (p.2.1, p.2.2)
theorem y_ClV_ok {cls : List vw_C} {tb : yTb} {P : yVw → Prop} {C : yCl} (ho : y_out tb.1.length (y_plw tb.2.2.2.2.2) sR sF) (hk : (C.1.all (y_pnk sR sF) && C.2.all (y_itk sR sF)) = true) (h : y_ClV P C) : y_ClT cls tb (y_KV sR sF P) C := by
  intro cwB cw tys tg lv gs _ hK hl hA
  obtain ⟨k1, k2⟩ := z_and hk
  obtain ⟨h1, h2, h3⟩ := y_lgc_v ho hK.1 (fun p hp => by
    have := List.all_eq_true.mp k1 p hp
    obtain ⟨a, c, d⟩ := p
    refine ⟨fun z => ?_, fun z => ?_⟩
    · rcases z with z | z
      · have z : a = 0 := z
        subst z
        simpa [y_pnk] using this
      · have z : a = 2 := z
        subst z
        simpa [y_pnk] using this
    · rcases z with z | z
      · have z : a = 1 := z
        subst z
        simpa [y_pnk] using this
      · have z : a = 3 := z
        subst z
        simpa [y_pnk] using this) hl
  have hA' := y_AI_V (List.all_eq_true.mp k2) hA
  rw [h2] at hA'
  exact ⟨h1, by rw [h2]; exact h _ lv gs hK.2 h3 hA'⟩
end YW
