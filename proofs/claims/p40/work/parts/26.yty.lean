-- what values and cells stand for. A valuation: the signs' numbers, the places of objects that a sign names, the addresses of the cells, their shapes
abbrev yRo : Type := List Int32 × (Nat → Option Nat) × List Nat × List yC
abbrev y_sg (ρ : yRo) : List Int32 := ρ.1
abbrev y_ps (ρ : yRo) : Nat → Option Nat := ρ.2.1
abbrev y_ad (ρ : yRo) : List Nat := ρ.2.2.1
abbrev y_tg (ρ : yRo) : List yC := ρ.2.2.2
def y_rle (ρ ρ' : yRo) : Prop := y_le (y_sg ρ) (y_sg ρ') ∧ (∀ i p, y_ps ρ i = some p → y_ps ρ' i = some p) ∧ z_le (y_ad ρ) (y_ad ρ') ∧ ∀ (p : Nat) (t : yC), (y_tg ρ)[p]? = some t → (y_tg ρ')[p]? = some t
theorem y_rle_refl (ρ : yRo) : y_rle ρ ρ := ⟨fun _ _ h => h, fun _ _ h => h, fun _ _ h => h, fun _ _ h => h⟩
theorem y_rle_trans {ρ ρ' ρ'' : yRo} (h : y_rle ρ ρ') (h' : y_rle ρ' ρ'') : y_rle ρ ρ'' := ⟨fun i x q => h'.1 i x (h.1 i x q), fun i x q => h'.2.1 i x (h.2.1 i x q), fun i x q => h'.2.2.1 i x (h.2.2.1 i x q), fun i x q => h'.2.2.2 i x (h.2.2.2 i x q)⟩
/-- the shape of a train (kind 1), of its row (kind 2) -/
def y_dsh (tb : yTb) (j : Nat) : yC := if j = 0 then tb.2.1 else tb.2.2.1
def y_g (tb : yTb) (ρ : yRo) (b : Nat → Nat) : yV → Value → Prop
  | .inl u, v => v = .int (nI u)
  | .inr (.inl i), v => ∃ x, (y_sg ρ)[i]? = some x ∧ v = .int x
  | .inr (.inr (.inl none)), v => v = .null
  | .inr (.inr (.inl (some (0, k)))), v => ∃ a, (y_ad ρ)[k]? = some a ∧ v = .ref a
  | .inr (.inr (.inl (some (j + 1, i)))), v => ∃ x, (y_sg ρ)[i]? = some x ∧ ((x = 0 ∧ v = .null) ∨ (x = 1 ∧ ∃ p a, y_ps ρ i = some p ∧ (y_ad ρ)[p]? = some a ∧ (y_tg ρ)[p]? = some (y_dsh tb j) ∧ v = .ref a))
  | .inr (.inr (.inr 1)), v => ∃ x, v = .long x
  | .inr (.inr (.inr 0)), v => v = .null ∨ ∃ q, v = .ref q
  | .inr (.inr (.inr 2)), v => v = .ref (b 2) ∧ ∃ x, (y_sg ρ)[0]? = some x ∧ ¬ x < 0 ∧ x.toNatClampNeg + 5 < b 1 ∧ b 1 ≤ 3072
  | .inr (.inr (.inr (n + 3))), v => v = .ref (b ((n + 3) % 1000))
theorem y_g_mono {tb : yTb} {ρ ρ' : yRo} {b : Nat → Nat} (h : y_rle ρ ρ') {a : yV} {v : Value} (hg : y_g tb ρ b a v) : y_g tb ρ' b a v := by
  match a, hg with
  | .inl _, hg => exact hg
  | .inr (.inl i), ⟨x, h1, h2⟩ => exact ⟨x, h.1 _ _ h1, h2⟩
  | .inr (.inr (.inl none)), hg => exact hg
  | .inr (.inr (.inl (some (0, k)))), ⟨q, h1, h2⟩ => exact ⟨q, h.2.2.1 _ _ h1, h2⟩
  | .inr (.inr (.inl (some (j + 1, i)))), ⟨x, h1, h2⟩ =>
    refine ⟨x, h.1 _ _ h1, h2.imp id ?_⟩
    rintro ⟨e, p, q, g1, g2, g3, g4⟩
    exact ⟨e, p, q, h.2.1 _ _ g1, h.2.2.1 _ _ g2, h.2.2.2 _ _ g3, g4⟩
  | .inr (.inr (.inr 0)), hg => exact hg
  | .inr (.inr (.inr 1)), hg => exact hg
  | .inr (.inr (.inr 2)), ⟨hg, x, h1, h2⟩ => exact ⟨hg, x, h.1 _ _ h1, h2⟩
  | .inr (.inr (.inr (_ + 3))), hg => exact hg
theorem y_g_int {tb : yTb} {ρ : yRo} {b : Nat → Nat} {a : yV} {x : Int32} (h : y_gi (y_sg ρ) a x) : y_g tb ρ b a (.int x) := by
  match a, h with
  | .inl u, h => exact congrArg Value.int h
  | .inr (.inl i), h => exact ⟨x, h, rfl⟩
  | .inr (.inr _), h => exact h.elim
theorem y_isI_ok {tb : yTb} {ρ : yRo} {b : Nat → Nat} {a : yV} {v : Value} (h : y_isI a = true) (hg : y_g tb ρ b a v) : ∃ x, v = .int x ∧ y_gi (y_sg ρ) a x := by
  match a, h, hg with
  | .inl _, _, hg => exact ⟨_, hg, rfl⟩
  | .inr (.inl _), _, ⟨x, h1, h2⟩ => exact ⟨x, h2, h1⟩
  | .inr (.inr _), h, _ => cases h
theorem y_isL_ok {tb : yTb} {ρ : yRo} {b : Nat → Nat} {a : yV} {v : Value} (h : y_isL a = true) (hg : y_g tb ρ b a v) : ∃ x, v = .long x := by
  match a, h, hg with
  | .inl _, h, _ => cases h
  | .inr (.inl _), h, _ => cases h
  | .inr (.inr (.inl _)), h, _ => cases h
  | .inr (.inr (.inr 0)), h, _ => cases h
  | .inr (.inr (.inr 1)), _, hg => exact hg
  | .inr (.inr (.inr (_ + 2))), h, _ => cases h
theorem y_isO_ok {tb : yTb} {ρ : yRo} {b : Nat → Nat} {a : yV} {v : Value} (h : y_isO a = true) (hg : y_g tb ρ b a v) : v = .null ∨ ∃ q, v = .ref q := by
  match a, h, hg with
  | .inl _, h, _ => cases h
  | .inr (.inl _), h, _ => cases h
  | .inr (.inr (.inl none)), _, hg => exact Or.inl hg
  | .inr (.inr (.inl (some (0, _)))), _, ⟨q, _, h2⟩ => exact Or.inr ⟨q, h2⟩
  | .inr (.inr (.inl (some (_ + 1, _)))), _, ⟨x, _, h2⟩ =>
    rcases h2 with h2 | ⟨_, p, q, _, _, _, h3⟩
    · exact Or.inl h2.2
    · exact Or.inr ⟨q, h3⟩
  | .inr (.inr (.inr _)), h, _ => cases h
theorem y_isR_ok {tb : yTb} {ρ : yRo} {b : Nat → Nat} {a : yV} {v : Value} (h : y_isR a = true) (hg : y_g tb ρ b a v) : v = .null ∨ ∃ q, v = .ref q := by
  match a, h, hg with
  | .inl _, h, _ => cases h
  | .inr (.inl _), h, _ => cases h
  | .inr (.inr (.inl o)), _, hg => exact y_isO_ok rfl hg
  | .inr (.inr (.inr 0)), h, _ => cases h
  | .inr (.inr (.inr 1)), h, _ => cases h
  | .inr (.inr (.inr 2)), _, hg => exact Or.inr ⟨b 2, hg.1⟩
  | .inr (.inr (.inr (n + 3))), _, hg => exact Or.inr ⟨b ((n + 3) % 1000), hg⟩
theorem y_g_sc {tb : yTb} {ρ : yRo} {b : Nat → Nat} {v : Value} : y_g tb ρ b (.inr (.inr (.inr 2))) v ↔ (v = .ref (b 2) ∧ ∃ x, (y_sg ρ)[0]? = some x ∧ ¬ x < 0 ∧ x.toNatClampNeg + 5 < b 1 ∧ b 1 ≤ 3072) := Iff.rfl
theorem y_g_any {tb : yTb} {ρ : yRo} {b : Nat → Nat} {v : Value} : y_g tb ρ b (.inr (.inr (.inr 0))) v ↔ (v = .null ∨ ∃ q, v = .ref q) := Iff.rfl
theorem y_g_tx {tb : yTb} {ρ : yRo} {b : Nat → Nat} {n : Nat} {v : Value} (h : 3 ≤ n) : y_g tb ρ b (.inr (.inr (.inr n))) v ↔ v = .ref (b (n % 1000)) := by
  match n, h with
  | n + 3, _ => exact Iff.rfl
/-- how many words a value takes -/
theorem y_cat1 {tb : yTb} {ρ : yRo} {b : Nat → Nat} {a : yV} {v : Value} (h : y_isL a = false) (hg : y_g tb ρ b a v) : v.category = 1 := by
  match a, h, hg with
  | .inl _, _, hg => rw [hg]; rfl
  | .inr (.inl _), _, ⟨_, _, hg⟩ => rw [hg]; rfl
  | .inr (.inr (.inl o)), _, hg =>
    rcases y_isO_ok (a := .inr (.inr (.inl o))) rfl hg with rfl | ⟨q, rfl⟩ <;> rfl
  | .inr (.inr (.inr 0)), _, hg => rcases hg with rfl | ⟨q, rfl⟩ <;> rfl
  | .inr (.inr (.inr 1)), h, _ => cases h
  | .inr (.inr (.inr 2)), _, hg =>
    have hg : v = .ref (b 2) := hg.1
    rw [hg]; rfl
  | .inr (.inr (.inr (n + 3))), _, hg =>
    have hg : v = .ref (b ((n + 3) % 1000)) := hg
    rw [hg]; rfl
-- shapes
def y_tv (tb : yTb) (ad : List Nat) (tg : List yC) : yT → Value → Prop
  | .inl D, v => ∃ x, v = .int x ∧ y_in D (z_b x)
  | .inr (.inl ks), v => ∃ k ∈ ks, ∃ a, ad[k]? = some a ∧ v = .ref a
  | .inr (.inr 0), v => ∃ x, v = .long x
  | .inr (.inr 1), v => v = .null ∨ ∃ (p a : Nat), tb.1.length ≤ p ∧ ad[p]? = some a ∧ tg[p]? = some tb.2.1 ∧ v = .ref a
  | .inr (.inr 2), v => ∃ (p a : Nat), tb.1.length ≤ p ∧ ad[p]? = some a ∧ tg[p]? = some tb.2.2.1 ∧ v = .ref a
  | .inr (.inr 3), v => ∃ (p a : Nat), tb.1.length ≤ p ∧ ad[p]? = some a ∧ tg[p]? = some tb.2.1 ∧ v = .ref a
  | _, _ => False
theorem y_tv_mono {tb : yTb} {ad ad' : List Nat} {tg tg' : List yC} (ha : z_le ad ad') (ht : ∀ (p : Nat) (t : yC), tg[p]? = some t → tg'[p]? = some t) {t : yT} {v : Value} (h : y_tv tb ad tg t v) : y_tv tb ad' tg' t v := by
  match t, h with
  | .inl _, h => exact h
  | .inr (.inl _), ⟨k, hk, a, h1, h2⟩ => exact ⟨k, hk, a, ha _ _ h1, h2⟩
  | .inr (.inr 0), h => exact h
  | .inr (.inr 1), h => exact h.imp id (fun ⟨p, a, h0, h1, h2, h3⟩ => ⟨p, a, h0, ha _ _ h1, ht _ _ h2, h3⟩)
  | .inr (.inr 2), ⟨p, a, h0, h1, h2, h3⟩ => exact ⟨p, a, h0, ha _ _ h1, ht _ _ h2, h3⟩
  | .inr (.inr 3), ⟨p, a, h0, h1, h2, h3⟩ => exact ⟨p, a, h0, ha _ _ h1, ht _ _ h2, h3⟩
  | .inr (.inr (_ + 4)), h => exact h
def y_TL (f : yT → Value → Prop) : List yT → List Value → Prop
  | [], [] => True
  | t :: ts, v :: vs => f t v ∧ y_TL f ts vs
  | _, _ => False
def y_DT (f : yT → Value → Prop) (ad : List Nat) : Nat → Nat → yT → ((Nat → Int32) ⊕ (Nat → Int64) ⊕ (Nat → UInt32) ⊕ (Nat → UInt64) ⊕ (Nat → Option Nat)) → Prop
  | 0, n, t, d => ∃ g, d = .inl g ∧ ∀ j, j < n → f t (.int (g j))
  | 1, n, t, d => ∃ g, d = .inl g ∧ ∀ j, j < n → f t (.int (g j))
  | 2, n, t, d => ∃ g, d = .inl g ∧ ∀ j, j < n → f t (.int (g j))
  | 3, _, _, d => ∃ g, d = .inr (.inl g)
  | _ + 4, n, .inr (.inl ks), d => ∃ g, d = .inr (.inr (.inr (.inr g))) ∧ ∀ j, j < n → ∃ k a, ks[j]? = some k ∧ ad[k]? = some a ∧ g j = some a
  | _ + 4, n, t, d => ∃ g, d = .inr (.inr (.inr (.inr g))) ∧ ∀ j, j < n → f t (va_rf (g j))
def y_ET (tb : yTb) (cls : List vw_C) (ad : List Nat) (tg : List yC) (tys : List (ClassId × FieldType)) : yC → va_E → Prop
  | .inl c, .inr o => c.1 = o.1 ∧ y_TL (y_tv tb ad tg) c.2 o.2
  | .inr c, .inl o => c.2.1 = o.2.1 ∧ (∃ t0 : Nat, tys[t0]? = some (o.1, z_kty cls c.1)) ∧ y_DT (y_tv tb ad tg) ad c.1 c.2.1 c.2.2 o.2.2
  | _, _ => False
/-- all cells have their shapes -/
def y_WT (tb : yTb) (cls : List vw_C) (tys : List (ClassId × FieldType)) (tg : List yC) (cw : va_W) : Prop := cw.length = tg.length ∧ (∃ dy, tg = tb.1 ++ dy ∧ ∀ c ∈ dy, c = tb.2.1 ∨ c = tb.2.2.1) ∧ ∀ (p : Nat) (e : Nat × va_E) (t : yC), cw[p]? = some e → tg[p]? = some t → y_ET tb cls (cw.map Prod.fst) tg tys t e.2
/-- where an object lies -/
def y_at (ρ : yRo) (kd i : Nat) : Option Nat := match kd with
  | 0 => some i
  | _ => y_ps ρ i
def y_fxr (tb : yTb) (ρ : yRo) (b : Nat → Nat) (cw : va_W) (fx : List yF) : Prop := ∀ q ∈ fx, (q.1 = 0 → q.2.1 < tb.1.length) ∧ ∃ p a ci vs w, y_at ρ q.1 q.2.1 = some p ∧ cw[p]? = some (a, .inr (ci, vs)) ∧ vs[q.2.2.1]? = some w ∧ y_g tb ρ b q.2.2.2 w
def y_axr (tb : yTb) (ρ : yRo) (b : Nat → Nat) (cw : va_W) (ax : List yA) : Prop := ∀ q ∈ ax, (q.1 = 0 → q.2.1 < tb.1.length) ∧ ∃ p a cA len f x, y_at ρ q.1 q.2.1 = some p ∧ cw[p]? = some (a, .inl (cA, len, .inl f)) ∧ y_gi (y_sg ρ) q.2.2.1 x ∧ x.toNatClampNeg + 2147483648 = z_b x ∧ y_g tb ρ b q.2.2.2 (.int (f x.toNatClampNeg))
theorem y_at_mono {ρ ρ' : yRo} (h : y_rle ρ ρ') {kd i p : Nat} (hp : y_at ρ kd i = some p) : y_at ρ' kd i = some p := by
  cases kd with
  | zero => exact hp
  | succ j => exact h.2.1 i p hp
theorem y_fxr_mono {tb : yTb} {ρ ρ' : yRo} {b : Nat → Nat} {cw : va_W} (h : y_rle ρ ρ') {fx : List yF} (hf : y_fxr tb ρ b cw fx) : y_fxr tb ρ' b cw fx := fun q hq => by
  obtain ⟨h0, p, a, ci, vs, w, h1, h2, h3, h4⟩ := hf q hq
  exact ⟨h0, p, a, ci, vs, w, y_at_mono h h1, h2, h3, y_g_mono h h4⟩
theorem y_axr_mono {tb : yTb} {ρ ρ' : yRo} {b : Nat → Nat} {cw : va_W} (h : y_rle ρ ρ') {ax : List yA} (hf : y_axr tb ρ b cw ax) : y_axr tb ρ' b cw ax := fun q hq => by
  obtain ⟨h0, p, a, cA, len, f, x, h1, h2, h3, hx, h4⟩ := hf q hq
  exact ⟨h0, p, a, cA, len, f, x, y_at_mono h h1, h2, y_gi_mono h.1 h3, hx, y_g_mono h h4⟩
/-- what is left as it was: cells of the shape outside of what may be written; trains, if they may not be -/
def y_same (n0 : Nat) (wr : yWr) (cw cw' : va_W) : Prop := z_le (cw.map Prod.fst) (cw'.map Prod.fst) ∧ (∀ (p : Nat) (a ci : Nat) (vs : List Value), cw[p]? = some (a, .inr (ci, vs)) → ∃ vs', cw'[p]? = some (a, .inr (ci, vs')) ∧ ∀ f, (p < n0 → (p, f) ∉ wr.1) → (n0 ≤ p → wr.2.2 = false) → vs'[f]? = vs[f]?) ∧ ∀ (p : Nat) (e : Nat × va_E), cw[p]? = some e → (∃ x, e.2 = .inl x) → (p < n0 → p ∉ wr.2.1) → (n0 ≤ p → wr.2.2 = false) → cw'[p]? = some e
theorem y_same_refl (n0 : Nat) (wr : yWr) (cw : va_W) : y_same n0 wr cw cw := ⟨fun _ _ h => h, fun p a ci vs h => ⟨vs, h, fun _ _ _ => rfl⟩, fun p e h _ _ _ => h⟩
theorem y_same_trans {n0 : Nat} {wr : yWr} {cw cw' cw'' : va_W} (h : y_same n0 wr cw cw') (h' : y_same n0 wr cw' cw'') : y_same n0 wr cw cw'' := by
  refine ⟨fun k a q => h'.1 k a (h.1 k a q), fun p a ci vs q => ?_, fun p e q ⟨x, hx⟩ q1 q2 => ?_⟩
  · obtain ⟨vs', g1, g2⟩ := h.2.1 p a ci vs q
    obtain ⟨vs'', g3, g4⟩ := h'.2.1 p a ci vs' g1
    exact ⟨vs'', g3, fun f q1 q2 => (g4 f q1 q2).trans (g2 f q1 q2)⟩
  · exact h'.2.2 p e (h.2.2 p e q ⟨x, hx⟩ q1 q2) ⟨x, hx⟩ q1 q2
