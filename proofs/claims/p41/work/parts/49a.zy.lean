-- from the first machine's cells to the second one's shapes
section ZY
variable {cls : List vw_C} {tb : yTb} {sg : Nat → Int32} {adz : List Nat} {bz : Nat} {ad : List Nat} {tg : List yC} {tys : List (ClassId × FieldType)}
/-- a value of the first machine fits a type; of references rf tells -/
noncomputable def zy_v (rf : Nat → yT → Bool) (t : yT) (a : zAV) : Bool := match a with
  | .inl u => (match t with
    | .inl D => y_sub [(z_bu u, z_bu u)] D
    | _ => false)
  | .inr (.inr (.inl none)) => (match t with
    | .inr (.inr 1) => true
    | _ => false)
  | .inr (.inr (.inl (some k))) => rf k t
  | .inr (.inr (.inr 1)) => (match t with
    | .inr (.inr 0) => true
    | _ => false)
  | _ => false
theorem zy_v_ok {rf : Nat → yT → Bool} (hrf : ∀ k t a, rf k t = true → adz[k]? = some a → y_tv tb ad tg t (.ref a)) {t : yT} {a : zAV} {v : Value} (h : zy_v rf t a = true) (hg : z_g sg adz bz a v) : y_tv tb ad tg t v := by
  match a, h, hg with
  | .inl u, h, hg =>
    have hg : v = .int (nI u) := hg
    subst hg
    match t, h with
    | .inl D, h => exact ⟨_, rfl, y_sub_ok h (by rw [z_b_nI]; exact y_in_iv (Nat.le_refl _) (Nat.le_refl _))⟩
    | .inr _, h => cases h
  | .inr (.inr (.inl none)), h, hg =>
    have hg : v = .null := hg
    subst hg
    match t, h with
    | .inr (.inr 1), _ => exact Or.inl rfl
  | .inr (.inr (.inl (some k))), h, ⟨a, h1, h2⟩ =>
    have h2 : v = .ref a := h2
    subst h2
    exact hrf k t a h h1
  | .inr (.inr (.inr 1)), h, ⟨x, hx⟩ =>
    have hx : v = .long x := hx
    subst hx
    match t, h with
    | .inr (.inr 0), _ => exact ⟨x, rfl⟩
noncomputable def zy_l (rf : Nat → yT → Bool) : List yT → List zAV → Bool
  | [], [] => true
  | t :: ts, a :: as => and (zy_v rf t a) (zy_l rf ts as)
  | _, _ => false
theorem zy_l_ok {rf : Nat → yT → Bool} (hrf : ∀ k t a, rf k t = true → adz[k]? = some a → y_tv tb ad tg t (.ref a)) : ∀ {ts : List yT} {as : List zAV} {vs : List Value}, zy_l rf ts as = true → z_SR (z_g sg adz bz) as vs → y_TL (y_tv tb ad tg) ts vs
  | [], [], [], _, _ => trivial
  | t :: ts, a :: as, v :: vs, h, hs => by
    obtain ⟨h1, h2⟩ := z_and (show and (zy_v rf t a) (zy_l rf ts as) = true from h)
    exact ⟨zy_v_ok hrf h1 hs.1, zy_l_ok hrf h2 hs.2⟩
  | [], _ :: _, _, h, _ => by cases h
  | _ :: _, [], _, h, _ => by cases h
  | [], [], _ :: _, _, hs => hs.elim
  | _ :: _, _ :: _, [], _, hs => hs.elim
noncomputable def zy_all (rf : Nat → yT → Bool) (t : yT) : List zAV → Bool
  | [] => true
  | a :: as => and (zy_v rf t a) (zy_all rf t as)
theorem zy_all_ok {rf : Nat → yT → Bool} {t : yT} {d : zAV} (hd : zy_v rf t d = true) : ∀ {as : List zAV}, zy_all rf t as = true → ∀ j, zy_v rf t (as.getD j d) = true
  | [], _, _ => hd
  | a :: as, h, j => by
    obtain ⟨h1, h2⟩ := z_and (show and (zy_v rf t a) (zy_all rf t as) = true from h)
    cases j with
    | zero => exact h1
    | succ j => exact zy_all_ok hd h2 j
/-- references one by one -/
noncomputable def zy_ks (rf : Nat → yT → Bool) : List Nat → List zAV → Bool
  | [], _ => true
  | k :: ks, .inr (.inr (.inl (some q))) :: as => and (and (Nat.beq k q) (rf q (.inr (.inl [k])))) (zy_ks rf ks as)
  | _, _ => false
theorem zy_ks_ok {rf : Nat → yT → Bool} : ∀ {ks : List Nat} {as : List zAV}, zy_ks rf ks as = true → ∀ j, j < ks.length → ∃ k, ks[j]? = some k ∧ as.getD j z_null = z_rf k ∧ rf k (.inr (.inl [k])) = true
  | [], _, _, j, hj => absurd hj (Nat.not_lt_zero _)
  | k :: ks, .inr (.inr (.inl (some q))) :: as, h, j, hj => by
    obtain ⟨h1, h2⟩ := z_and (show and (and (Nat.beq k q) (rf q (.inr (.inl [k])))) (zy_ks rf ks as) = true from h)
    obtain ⟨h0, h1⟩ := z_and h1
    have h0 := Nat.eq_of_beq_eq_true h0
    subst h0
    cases j with
    | zero => exact ⟨k, rfl, rfl, h1⟩
    | succ j => exact zy_ks_ok h2 j (by simpa using hj)
  | _ :: _, [], h, _, _ => by cases h
  | _ :: _, .inl _ :: _, h, _, _ => by cases h
  | _ :: _, .inr (.inl _) :: _, h, _, _ => by cases h
  | _ :: _, .inr (.inr (.inl none)) :: _, h, _, _ => by cases h
  | _ :: _, .inr (.inr (.inr _)) :: _, h, _, _ => by cases h
noncomputable def zy_d (rf : Nat → yT → Bool) (kd n : Nat) (t : yT) (pr : List zAV) : Bool := match kd with
  | 0 => and (zy_v rf t (.inl 0)) (zy_all rf t pr)
  | 1 => and (zy_v rf t (.inl 0)) (zy_all rf t pr)
  | 2 => and (zy_v rf t (.inl 0)) (zy_all rf t pr)
  | 3 => true
  | _ + 4 => (match t with
    | .inr (.inl ks) => and (Nat.beq ks.length n) (zy_ks rf ks pr)
    | t => and (zy_v rf t z_null) (zy_all rf t pr))
theorem zy_d_ok {rf : Nat → yT → Bool} (hrf : ∀ k t a, rf k t = true → adz[k]? = some a → y_tv tb ad tg t (.ref a)) {kd n : Nat} {t : yT} {pr : List zAV} {d : (Nat → Int32) ⊕ (Nat → Int64) ⊕ (Nat → UInt32) ⊕ (Nat → UInt64) ⊕ (Nat → Option Nat)} (h : zy_d rf kd n t pr = true) (hd : z_DR (z_g sg adz bz) kd pr d) : y_DT (y_tv tb ad tg) ad kd n t d := by
  match kd, h, hd with
  | 0, h, ⟨f, e, hf⟩ =>
    obtain ⟨h1, h2⟩ := z_and h
    exact ⟨f, e, fun j _ => zy_v_ok hrf (zy_all_ok h1 h2 j) (hf j)⟩
  | 1, h, ⟨f, e, hf⟩ =>
    obtain ⟨h1, h2⟩ := z_and h
    exact ⟨f, e, fun j _ => zy_v_ok hrf (zy_all_ok h1 h2 j) (hf j)⟩
  | 2, h, ⟨f, e, hf⟩ =>
    obtain ⟨h1, h2⟩ := z_and h
    exact ⟨f, e, fun j _ => zy_v_ok hrf (zy_all_ok h1 h2 j) (hf j)⟩
  | 3, _, ⟨f, e⟩ => exact ⟨f, e⟩
  | kd + 4, h, ⟨f, e, hf⟩ =>
    match t, h with
    | .inr (.inl ks), h =>
      obtain ⟨h1, h2⟩ := z_and (show and (Nat.beq ks.length n) (zy_ks rf ks pr) = true from h)
      have h1 := Nat.eq_of_beq_eq_true h1
      refine ⟨f, e, fun j hj => ?_⟩
      obtain ⟨k, k1, k2, k3⟩ := zy_ks_ok h2 j (by omega)
      have := hf j
      rw [k2] at this
      obtain ⟨a, a1, a2⟩ := this
      have := hrf k _ a k3 a1
      obtain ⟨k', hk', a', b1, b2⟩ := this
      rw [List.mem_singleton.mp hk'] at b1
      cases b2
      refine ⟨k, a, k1, b1, ?_⟩
      cases hj : f j with
      | none => rw [hj] at a2; cases a2
      | some q => rw [hj] at a2; cases a2; rfl
    | .inl D, h =>
      obtain ⟨h1, h2⟩ := z_and (show and (zy_v rf (.inl D) z_null) (zy_all rf (.inl D) pr) = true from h)
      exact ⟨f, e, fun j _ => zy_v_ok hrf (zy_all_ok h1 h2 j) (hf j)⟩
    | .inr (.inr q), h =>
      obtain ⟨h1, h2⟩ := z_and (show and (zy_v rf (.inr (.inr q)) z_null) (zy_all rf (.inr (.inr q)) pr) = true from h)
      exact ⟨f, e, fun j _ => zy_v_ok hrf (zy_all_ok h1 h2 j) (hf j)⟩
noncomputable def zy_E (rf : Nat → yT → Bool) (e : zAE) (c : yC) : Bool := match e, c with
  | .inl (ci, fs), .inl (cj, ts) => and (Nat.beq ci cj) (zy_l rf ts fs)
  | .inr (kd, n, pr), .inr (kd', n', t) => and (and (Nat.beq kd kd') (Nat.beq n n')) (zy_d rf kd n t pr)
  | _, _ => false
theorem zy_E_ok {rf : Nat → yT → Bool} (hrf : ∀ k t a, rf k t = true → adz[k]? = some a → y_tv tb ad tg t (.ref a)) {e : zAE} {c : yC} {x : va_E} (h : zy_E rf e c = true) (hx : z_ER cls (z_g sg adz bz) tys e x) : y_ET tb cls ad tg tys c x := by
  match e, c, x, h, hx with
  | .inl (ci, fs), .inl (cj, ts), .inr o, h, ⟨h1, h2⟩ =>
    obtain ⟨h3, h4⟩ := z_and (show and (Nat.beq ci cj) (zy_l rf ts fs) = true from h)
    have h3 := Nat.eq_of_beq_eq_true h3
    subst h3
    exact ⟨h1, zy_l_ok hrf h4 h2⟩
  | .inr (kd, n, pr), .inr (kd', n', t), .inl o, h, ⟨h1, h2, h3⟩ =>
    obtain ⟨h4, h5⟩ := z_and (show and (and (Nat.beq kd kd') (Nat.beq n n')) (zy_d rf kd n t pr) = true from h)
    obtain ⟨h6, h7⟩ := z_and h4
    have h6 := Nat.eq_of_beq_eq_true h6
    have h7 := Nat.eq_of_beq_eq_true h7
    subst h6
    subst h7
    exact ⟨h1, h2, zy_d_ok hrf h5 h3⟩
  | .inl _, .inl _, .inl _, _, hx => exact hx.elim
  | .inr _, .inr _, .inr _, _, hx => exact hx.elim
noncomputable def zy_W (rf : Nat → yT → Bool) : List zAE → List yC → Bool
  | [], [] => true
  | e :: es, c :: cs => and (zy_E rf e c) (zy_W rf es cs)
  | _, _ => false
theorem zy_W_ok {rf : Nat → yT → Bool} (hrf : ∀ k t a, rf k t = true → adz[k]? = some a → y_tv tb ad tg t (.ref a)) : ∀ {es : List zAE} {cs : List yC} {cw : va_W}, zy_W rf es cs = true → z_WR cls (z_g sg adz bz) tys es cw → cw.length = cs.length ∧ ∀ (p : Nat) (e : Nat × va_E) (t : yC), cw[p]? = some e → cs[p]? = some t → y_ET tb cls ad tg tys t e.2
  | [], [], [], _, _ => ⟨rfl, fun p e t h _ => by simp at h⟩
  | e :: es, c :: cs, x :: cw, h, hs => by
    obtain ⟨h1, h2⟩ := z_and (show and (zy_E rf e c) (zy_W rf es cs) = true from h)
    obtain ⟨h3, h4⟩ := zy_W_ok hrf h2 hs.2
    refine ⟨by simp [h3], fun p e' t h5 h6 => ?_⟩
    cases p with
    | zero => cases h5; cases h6; exact zy_E_ok hrf h1 hs.1
    | succ p => exact h4 p e' t (by simpa using h5) (by simpa using h6)
  | [], _ :: _, _, h, _ => by cases h
  | _ :: _, [], _, h, _ => by cases h
  | [], [], _ :: _, _, hs => hs.elim
  | _ :: _, _ :: _, [], _, hs => hs.elim
end ZY
-- items carried over: other locals, cells that are as they were
def y_rnp (a b : Nat) (pl : yPl) : yPl := match pl with
  | (0, j, f, rs) => (0, (if j = a then b else j), f, rs)
  | pl => pl
def y_rni (a b : Nat) : yIt → yIt
  | .inl e => .inl (y_rnp a b e.1, e.2)
  | .inr e => .inr (e.1, y_rnp a b e.2.1, y_rnp a b e.2.2.1, e.2.2.2)
def y_okp (a bad : Nat) (pl : yPl) : Bool := (match pl.1 with
  | 0 => Nat.beq pl.2.1 a
  | 1 => !(Nat.beq pl.2.1 bad)
  | _ => true) && pl.2.2.2.all fun r => !(Nat.beq r bad)
def y_oki (a bad : Nat) : yIt → Bool
  | .inl e => y_okp a bad e.1 && !(Nat.beq e.2.1 bad)
  | .inr e => y_okp a bad e.2.1 && y_okp a bad e.2.2.1
section YTr
variable {n0 a b bad : Nat} {lv lv' : List (Nat × Value)} {cw cw' : va_W}
theorem y_nb {x y : Nat} (h : (!(Nat.beq x y)) = true) : x ≠ y := fun e => by
  rw [e, Nat.beq_refl] at h
  cases h
theorem y_prw_tr (hc : ∀ (r : Nat) (x : Nat × va_E), r < n0 → r ≠ bad → cw[r]? = some x → cw'[r]? = some x) : ∀ {rs : List Nat} {x y : Int32}, (rs.all fun r => !(Nat.beq r bad)) = true → y_prw n0 cw rs x y → y_prw n0 cw' rs x y
  | [], _, _, _, h => h
  | r :: rs, x, y, hb, ⟨a, cA, len, f, h1, h2, h3, h4⟩ => by
    rw [List.all_cons, Bool.and_eq_true] at hb
    exact ⟨a, cA, len, f, h1, hc r _ h1 (y_nb hb.1) h2, h3, y_prw_tr hc hb.2 h4⟩
theorem y_pls_tr (hc : ∀ (r : Nat) (x : Nat × va_E), r < n0 → r ≠ bad → cw[r]? = some x → cw'[r]? = some x) (hl : ∀ x : Int32, lv.lookup a = some (.int x) → lv'.lookup b = some (.int x)) {gs : List Int32} {pl : yPl} {x : Int32} (hb : y_okp a bad pl = true) (h : y_pls n0 gs lv cw pl x) : y_pls n0 gs lv' cw' (y_rnp a b pl) x := by
  obtain ⟨kd, j, f, rs⟩ := pl
  obtain ⟨z, h1, h2⟩ := h
  have hb' := (Bool.and_eq_true_iff.mp hb)
  have h3 := y_prw_tr hc hb'.2 h2
  match kd, h1, hb'.1 with
  | 0, h1, hb1 =>
    have e : j = a := Nat.eq_of_beq_eq_true hb1
    subst e
    refine ⟨z, ?_, h3⟩
    show lv'.lookup (if j = j then b else j) = some (.int z)
    rw [if_pos rfl]
    exact hl z h1
  | 1, ⟨h1, a', ci, vs, h4, h5⟩, hb1 => exact ⟨z, ⟨h1, a', ci, vs, hc j _ h1 (y_nb hb1) h4, h5⟩, h3⟩
  | 2, h1, _ => exact ⟨z, h1, h3⟩
  | _ + 3, h1, _ => exact ⟨z, h1, h3⟩
theorem y_AI_tr (hc : ∀ (r : Nat) (x : Nat × va_E), r < n0 → r ≠ bad → cw[r]? = some x → cw'[r]? = some x) (hl : ∀ x : Int32, lv.lookup a = some (.int x) → lv'.lookup b = some (.int x)) : ∀ {is : List yIt} {gs : List Int32}, is.all (y_oki a bad) = true → y_AI n0 lv cw gs is → y_AI n0 lv' cw' gs (is.map (y_rni a b))
  | [], _, _, _ => trivial
  | .inl e :: is, gs, hb, ⟨x, y, h1, h2, h3, h4⟩ => by
    rw [List.all_cons, Bool.and_eq_true] at hb
    obtain ⟨b1, b2⟩ := Bool.and_eq_true_iff.mp hb.1
    exact ⟨x, y, y_pls_tr hc hl b1 h1, y_prw_tr hc (by simpa using b2) h2, h3, y_AI_tr hc hl hb.2 h4⟩
  | .inr e :: is, gs, hb, ⟨x, y, h1, h2, h3, h4⟩ => by
    rw [List.all_cons, Bool.and_eq_true] at hb
    obtain ⟨b1, b2⟩ := Bool.and_eq_true_iff.mp hb.1
    exact ⟨x, y, y_pls_tr hc hl b1 h1, y_pls_tr hc hl b2 h2, h3, y_AI_tr hc hl hb.2 h4⟩
theorem y_facts_tr (hc : ∀ (r : Nat) (x : Nat × va_E), r < n0 → r ≠ bad → cw[r]? = some x → cw'[r]? = some x) {ps : yPre} (hb : (ps.all fun q => !(Nat.beq q.1 bad)) = true) (h : y_facts n0 cw ps) : y_facts n0 cw' ps := fun q hq => by
  obtain ⟨h1, a, ci, vs, x, h2, h3, h4⟩ := h q hq
  exact ⟨h1, a, ci, vs, x, hc q.1 _ h1 (y_nb (List.all_eq_true.mp hb q hq)) h2, h3, h4⟩
end YTr
-- tables made longer
theorem z_opl_mk {α : Type} {l : List α} {i : Nat} {f : α → Bool} {a : α} (h : l[i]? = some a) (hf : f a = true) : z_opl l i f = true := by
  unfold z_opl
  rw [z_at_eq, h]
  exact hf
theorem y_cal_ext {S : List yC} {T R : yC} {ms ms' : List yMR} {cs : List yCN} {w w' : yWr} {x1 x2 : Nat} {f : yMR → Bool} (h : y_cal (S, T, R, ms, cs, w) x1 x2 f = true) : y_cal (S, T, R, ms ++ ms', cs, w') x1 x2 f = true := by
  unfold y_cal at h ⊢
  rcases y_bool h with ⟨hb, h⟩ | ⟨hb, h⟩
  · rw [hb]
    exact h
  · rw [hb]
    obtain ⟨a, h1, h2⟩ := z_opl_ok h
    exact z_opl_mk (show (ms ++ ms')[x1]? = some a by rw [List.getElem?_append_left (List.getElem?_eq_some_iff.mp h1).1]; exact h1) h2
theorem y_okE_ext {wt : zTB} {nw : List Jvm.Cond} {cls : List vw_C} {S : List yC} {T R : yC} {ms ms' : List yMR} {cs : List yCN} {w w' : yWr} {mr : yMR} {x : yEnt} (h : y_okE wt nw cls (S, T, R, ms, cs, w) mr x = true) : y_okE wt nw cls (S, T, R, ms ++ ms', cs, w') mr x = true := by
  obtain ⟨q, i, x1, x2, x3, fl⟩ := x
  obtain ⟨h1, h2⟩ := z_and h
  refine Bool.and_eq_true_iff.mpr ⟨h1, ?_⟩
  cases i with
  | invokevirtual j =>
    have h2 : y_cal (S, T, R, ms, cs, w) x1 x2 (fun cm => and (and (Nat.blt (y_ci cm) (cond (Nat.ble 300 (x2 % 1000)) 100 99)) (decide ((y_y cm).name ≠ "<init>"))) (and (decide ((parseMethodDescriptor (y_y cm).desc).map (fun d => d.parameters.length) = some (x2 % 100))) (z_w wt x3 (.methodLink (y_y mr).cls j (y_y cm))))) = true := h2
    exact y_cal_ext (ms' := ms') (w' := w') h2
  | invokestatic j =>
    have h2 : cond (Nat.ble 2000 x2) (z_w wt x3 (.methodLink (y_y mr).cls j (y_natn x2))) (y_cal (S, T, R, ms, cs, w) x1 x2 fun cm => y_oks wt nw mr j x2 x3 cm) = true := h2
    show cond (Nat.ble 2000 x2) (z_w wt x3 (.methodLink (y_y mr).cls j (y_natn x2))) (y_cal (S, T, R, ms ++ ms', cs, w') x1 x2 fun cm => y_oks wt nw mr j x2 x3 cm) = true
    rcases y_bool h2 with ⟨hb, h2⟩ | ⟨hb, h2⟩
    · rw [hb]
      exact h2
    · rw [hb]
      exact y_cal_ext h2
  | _ => exact h2
theorem va_K_app {D : va_G} {cl : List vw_C} {t1 t2 : List (ClassId × FieldType)} {U : State} (h1 : va_K D cl t1 U) (h2 : va_K D cl t2 U) : va_K D cl (t1 ++ t2) U := by
  refine ⟨h1.1, fun k q hq => ?_⟩
  by_cases hk : k < t1.length
  · rw [List.getElem?_append_left hk] at hq
    exact h1.2 k q hq
  · rw [List.getElem?_append_right (by omega)] at hq
    exact h2.2 _ q hq
