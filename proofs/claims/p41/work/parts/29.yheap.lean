-- objects, fields, rows: what the small steps say
theorem y_one {x : Int32} (h : z_b x = 2147483649) : x = 1 := by
  have h1 := z_bu_b x
  rw [h] at h1
  exact h1.symm
theorem y_in_pt {a n : Nat} (h : y_in [(a, a)] n) : n = a := by
  rcases y_in_cons.mp h with q | q
  · have := q.1; have := q.2; dsimp only at *; omega
  · exact absurd q y_in_nil
section YB
variable {tb : yTb} {ρ : yRo} {b : Nat → Nat} {env : yEnv} {cls : List vw_C} {tys : List (ClassId × FieldType)} {cw : va_W}
theorem y_rcv_ok {v : yV} {w : Value} {f : Nat → Nat → Bool} (h : y_rcv env v f = true) (he : y_erel (y_sg ρ) env) (hg : y_g tb ρ b v w) : ∃ kd i p a, y_at ρ kd i = some p ∧ (y_ad ρ)[p]? = some a ∧ w = .ref a ∧ (1 ≤ kd → (y_tg ρ)[p]? = some (y_dsh tb (kd - 1))) ∧ v = y_ob kd i ∧ f kd i = true := by
  match v, h, hg with
  | .inr (.inr (.inl (some (0, k)))), h, ⟨a, h1, h2⟩ => exact ⟨0, k, k, a, rfl, h1, h2, fun q => by omega, rfl, h⟩
  | .inr (.inr (.inl (some (j + 1, i)))), h, ⟨x, h1, h2⟩ =>
    have h : y_lk env i (fun D => cond (y_sub D [(2147483649, 2147483649)]) (f (j + 1) i) false) = true := h
    obtain ⟨E, d1, d2⟩ := y_lk_ok h he h1
    obtain ⟨d3, d4⟩ := z_cond d2
    have hx := y_one (y_in_pt (y_sub_ok d3 d1))
    subst hx
    rcases h2 with h2 | ⟨_, p, a, g1, g2, g3, g4⟩
    · exact absurd h2.1 (by decide)
    · exact ⟨j + 1, i, p, a, g1, g2, g4, fun _ => g3, rfl, d4⟩
  | .inl _, h, _ => cases h
  | .inr (.inl _), h, _ => cases h
  | .inr (.inr (.inl none)), h, _ => cases h
  | .inr (.inr (.inr _)), h, _ => cases h
theorem y_sh_ok {kd i p : Nat} {f : yC → Bool} {dy : List yC} (h : y_sh tb kd i f = true) (hat : y_at ρ kd i = some p) (hd : 1 ≤ kd → (y_tg ρ)[p]? = some (y_dsh tb (kd - 1))) (hW : y_tg ρ = tb.1 ++ dy) : ∃ c, (y_tg ρ)[p]? = some c ∧ f c = true := by
  match kd, h, hat, hd with
  | 0, h, hat, _ =>
    obtain ⟨c, h1, h2⟩ := z_opl_ok (l := tb.1) h
    cases hat
    exact ⟨c, by rw [hW, List.getElem?_append_left (List.getElem?_eq_some_iff.mp h1).1]; exact h1, h2⟩
  | 1, h, _, hd => exact ⟨_, hd (Nat.le_refl _), h⟩
  | k + 2, h, _, hd => exact ⟨_, hd (by omega), by rw [show y_dsh tb (k + 2 - 1) = tb.2.2.1 from if_neg (by omega)]; exact h⟩
theorem y_obj_ok {kd i p ci fl : Nat} {f : yT → Bool} {dy : List yC} (h : y_obj tb kd i ci fl f = true) (hat : y_at ρ kd i = some p) (hd : 1 ≤ kd → (y_tg ρ)[p]? = some (y_dsh tb (kd - 1))) (hW : y_tg ρ = tb.1 ++ dy) : ∃ ts ty, (y_tg ρ)[p]? = some (.inl (ci, ts)) ∧ ts[fl]? = some ty ∧ f ty = true := by
  obtain ⟨c, h1, h2⟩ := y_sh_ok h hat hd hW
  match c, h1, h2 with
  | .inl (cj, ts), h1, h2 =>
    obtain ⟨h3, h4⟩ := z_cond h2
    have h3 := Nat.eq_of_beq_eq_true h3
    subst h3
    obtain ⟨ty, h5, h6⟩ := z_opl_ok h4
    exact ⟨ts, ty, h1, h5, h6⟩
  | .inr _, _, h2 => cases h2
theorem y_arr_ok {kd i p : Nat} {f : Nat → Nat → yT → Bool} {dy : List yC} (h : y_arr tb kd i f = true) (hat : y_at ρ kd i = some p) (hd : 1 ≤ kd → (y_tg ρ)[p]? = some (y_dsh tb (kd - 1))) (hW : y_tg ρ = tb.1 ++ dy) : ∃ q n t, (y_tg ρ)[p]? = some (.inr (q, n, t)) ∧ f q n t = true := by
  obtain ⟨c, h1, h2⟩ := y_sh_ok h hat hd hW
  match c, h1, h2 with
  | .inr (q, n, t), h1, h2 => exact ⟨q, n, t, h1, h2⟩
  | .inl _, _, h2 => cases h2
theorem y_TL_get {f : yT → Value → Prop} : ∀ {ts : List yT} {vs : List Value} {k : Nat} {t : yT}, y_TL f ts vs → ts[k]? = some t → ∃ v, vs[k]? = some v ∧ f t v
  | [], [], k, _, _, h => by simp at h
  | _ :: _, v :: _, 0, _, hs, h => by simp at h; subst h; exact ⟨v, rfl, hs.1⟩
  | _ :: ts, _ :: vs, k + 1, _, hs, h => by simpa using y_TL_get (ts := ts) (vs := vs) (k := k) hs.2 (by simpa using h)
  | [], _ :: _, _, _, hs, _ => hs.elim
  | _ :: _, [], _, _, hs, _ => hs.elim
theorem y_TL_set {f : yT → Value → Prop} {t : yT} {v : Value} (hv : f t v) : ∀ {ts : List yT} {vs : List Value} {k : Nat}, y_TL f ts vs → ts[k]? = some t → y_TL f ts (vs.set k v)
  | [], [], _, hs, _ => hs
  | _ :: _, _ :: _, 0, hs, h => by simp at h; subst h; exact ⟨hv, hs.2⟩
  | _ :: _, _ :: _, k + 1, hs, h => ⟨hs.1, y_TL_set hv hs.2 (by simpa using h)⟩
  | [], _ :: _, _, hs, _ => hs.elim
  | _ :: _, [], _, hs, _ => hs.elim
/-- a cell of known shape, found -/
theorem y_cell {p a : Nat} {c : yC} (hW : y_WT tb cls tys (y_tg ρ) cw) (had : y_ad ρ = cw.map Prod.fst) (h1 : (y_ad ρ)[p]? = some a) (h2 : (y_tg ρ)[p]? = some c) : ∃ e, cw[p]? = some (a, e) ∧ y_ET tb cls (cw.map Prod.fst) (y_tg ρ) tys c e := by
  rw [had, List.getElem?_map] at h1
  cases hc : cw[p]? with
  | none => rw [hc] at h1; cases h1
  | some e =>
    rw [hc] at h1
    have h1 : e.1 = a := Option.some.inj h1
    exact ⟨e.2, by rw [← h1], hW.2.2 p e c hc h2⟩
theorem y_cobj {p a ci : Nat} {ts : List yT} (hW : y_WT tb cls tys (y_tg ρ) cw) (had : y_ad ρ = cw.map Prod.fst) (h1 : (y_ad ρ)[p]? = some a) (h2 : (y_tg ρ)[p]? = some (.inl (ci, ts))) : ∃ vs, cw[p]? = some (a, .inr (ci, vs)) ∧ y_TL (y_tv tb (cw.map Prod.fst) (y_tg ρ)) ts vs := by
  obtain ⟨e, g1, g2⟩ := y_cell hW had h1 h2
  match e, g1, g2 with
  | .inr (cj, vs), g1, g2 =>
    have g3 : ci = cj := g2.1
    subst g3
    exact ⟨vs, g1, g2.2⟩
  | .inl _, _, g2 => exact g2.elim
theorem y_crow {p a kd len : Nat} {t : yT} (hW : y_WT tb cls tys (y_tg ρ) cw) (had : y_ad ρ = cw.map Prod.fst) (h1 : (y_ad ρ)[p]? = some a) (h2 : (y_tg ρ)[p]? = some (.inr (kd, len, t))) : ∃ (cA : ClassId) (d : (Nat → Int32) ⊕ (Nat → Int64) ⊕ (Nat → UInt32) ⊕ (Nat → UInt64) ⊕ (Nat → Option Nat)) (t0 : Nat), cw[p]? = some (a, .inl (cA, len, d)) ∧ tys[t0]? = some (cA, z_kty cls kd) ∧ y_DT (y_tv tb (cw.map Prod.fst) (y_tg ρ)) (cw.map Prod.fst) kd len t d := by
  obtain ⟨e, g1, g2⟩ := y_cell hW had h1 h2
  match e, g1, g2 with
  | .inl (cA, m, d), g1, g2 =>
    have g3 : len = m := g2.1
    subst g3
    obtain ⟨t0, g4⟩ := g2.2.1
    exact ⟨cA, d, t0, g1, g4, g2.2.2⟩
  | .inr _, _, g2 => exact g2.elim
/-- a new sign -/
theorem y_new {n n0 : Nat} (hn : (y_sg ρ).length = n) (hp : ∀ i, n ≤ i → y_ps ρ i = none) (h0 : ∀ i p, y_ps ρ i = some p → n0 ≤ p) (x : Int32) (o : Option Nat) (ho : ∀ p, o = some p → n0 ≤ p) : ∃ ρ' : yRo, y_rle ρ ρ' ∧ y_ad ρ' = y_ad ρ ∧ y_tg ρ' = y_tg ρ ∧ (y_sg ρ').length = n + 1 ∧ ((∀ i, n + 1 ≤ i → y_ps ρ' i = none) ∧ ∀ i p, y_ps ρ' i = some p → n0 ≤ p) ∧ (y_sg ρ')[n]? = some x ∧ y_ps ρ' n = o := by
  refine ⟨(y_sg ρ ++ [x], (fun i => if i = n then o else y_ps ρ i), y_ad ρ, y_tg ρ), ⟨y_le_app _ _, fun i p h => ?_, fun _ _ h => h, fun _ _ h => h⟩, rfl, rfl, ?_, ⟨fun i h => ?_, fun i p h => ?_⟩, ?_, ?_⟩
  · show (if i = n then o else y_ps ρ i) = some p
    by_cases hi : i = n
    · subst hi
      rw [hp i (Nat.le_refl _)] at h
      cases h
    · rw [if_neg hi]; exact h
  · show (y_sg ρ ++ [x]).length = n + 1
    rw [List.length_append, hn]; rfl
  · show (if i = n then o else y_ps ρ i) = none
    rw [if_neg (by omega)]
    exact hp i (by omega)
  · have h : (if i = n then o else y_ps ρ i) = some p := h
    by_cases hi : i = n
    · rw [if_pos hi] at h; exact ho p h
    · rw [if_neg hi] at h; exact h0 i p h
  · show (y_sg ρ ++ [x])[n]? = some x
    rw [← hn, List.getElem?_append_right (Nat.le_refl _)]
    simp
  · show (if n = n then o else y_ps ρ n) = o
    rw [if_pos rfl]
theorem y_alk_ok {ks : List Nat} {k : Nat → Bool} {q : Nat} (h : y_alk ks k = true) (hq : q ∈ ks) : k q = true := by
  induction ks with
  | nil => cases hq
  | cons c ks ih =>
    have h : and (k c) (y_alk ks k) = true := h
    obtain ⟨h1, h2⟩ := z_and h
    rcases List.mem_cons.mp hq with rfl | hq
    · exact h1
    · exact ih h2 hq
theorem y_nv_ok {t : yT} {n : Nat} {k : yV → Nat → yEnv → Bool} {w : Value} (h : y_nv t n env k = true) (hn : (y_sg ρ).length = n) (hp : ∀ i, n ≤ i → y_ps ρ i = none) (h0 : ∀ i p, y_ps ρ i = some p → tb.1.length ≤ p) (he : y_erel (y_sg ρ) env) (hw : y_tv tb (y_ad ρ) (y_tg ρ) t w) : ∃ ρ' v n' env', y_rle ρ ρ' ∧ y_ad ρ' = y_ad ρ ∧ y_tg ρ' = y_tg ρ ∧ (y_sg ρ').length = n' ∧ ((∀ i, n' ≤ i → y_ps ρ' i = none) ∧ ∀ i p, y_ps ρ' i = some p → tb.1.length ≤ p) ∧ y_erel (y_sg ρ') env' ∧ y_g tb ρ' b v w ∧ k v n' env' = true := by
  match t, h, hw with
  | .inl D, h, ⟨x, hx, hD⟩ =>
    have h : z_frc (n + 1) (fun n' => k (y_sy n) n' ((n, D) :: env)) = true := h
    rw [z_frc_eq] at h
    obtain ⟨ρ', g1, g2, g3, g4, g5, g6, g7⟩ := y_new hn hp h0 x none (fun p q => by cases q)
    exact ⟨ρ', y_sy n, n + 1, _, g1, g2, g3, g4, g5, y_erel_cons (y_erel_mono g1.1 he) g6 hD, ⟨x, g6, hx⟩, h⟩
  | .inr (.inl ks), h, ⟨q, hq, a, ha, hv⟩ =>
    have h : y_alk ks (fun a => k (y_ob 0 a) n env) = true := h
    have hk : k (y_ob 0 q) n env = true := y_alk_ok h hq
    exact ⟨ρ, y_ob 0 q, n, env, y_rle_refl ρ, rfl, rfl, hn, ⟨hp, h0⟩, he, ⟨a, ha, hv⟩, hk⟩
  | .inr (.inr 0), h, hw => exact ⟨ρ, y_lng, n, env, y_rle_refl ρ, rfl, rfl, hn, ⟨hp, h0⟩, he, hw, h⟩
  | .inr (.inr 1), h, hw =>
    have h : z_frc (n + 1) (fun n' => k (y_ob 1 n) n' ((n, [(2147483648, 2147483649)]) :: env)) = true := h
    rw [z_frc_eq] at h
    rcases hw with hw | ⟨p, a, hp0, h1, h2, h3⟩
    · obtain ⟨ρ', g1, g2, g3, g4, g5, g6, g7⟩ := y_new hn hp h0 0 none (fun p q => by cases q)
      exact ⟨ρ', y_ob 1 n, n + 1, _, g1, g2, g3, g4, g5, y_erel_cons (y_erel_mono g1.1 he) g6 (y_in_iv (by decide) (by decide)), ⟨0, g6, Or.inl ⟨rfl, hw⟩⟩, h⟩
    · obtain ⟨ρ', g1, g2, g3, g4, g5, g6, g7⟩ := y_new hn hp h0 1 (some p) (fun p' q => by cases q; exact hp0)
      exact ⟨ρ', y_ob 1 n, n + 1, _, g1, g2, g3, g4, g5, y_erel_cons (y_erel_mono g1.1 he) g6 (y_in_iv (by decide) (by decide)), ⟨1, g6, Or.inr ⟨rfl, p, a, g7, by rw [g2]; exact h1, by rw [g3]; exact h2, h3⟩⟩, h⟩
  | .inr (.inr 2), h, ⟨p, a, hp0, h1, h2, h3⟩ =>
    have h : z_frc (n + 1) (fun n' => k (y_ob 2 n) n' ((n, [(2147483649, 2147483649)]) :: env)) = true := h
    rw [z_frc_eq] at h
    obtain ⟨ρ', g1, g2, g3, g4, g5, g6, g7⟩ := y_new hn hp h0 1 (some p) (fun p' q => by cases q; exact hp0)
    exact ⟨ρ', y_ob 2 n, n + 1, _, g1, g2, g3, g4, g5, y_erel_cons (y_erel_mono g1.1 he) g6 (y_in_iv (by decide) (by decide)), ⟨1, g6, Or.inr ⟨rfl, p, a, g7, by rw [g2]; exact h1, by rw [g3]; exact h2, h3⟩⟩, h⟩
  | .inr (.inr 3), h, ⟨p, a, hp0, h1, h2, h3⟩ =>
    have h : z_frc (n + 1) (fun n' => k (y_ob 1 n) n' ((n, [(2147483649, 2147483649)]) :: env)) = true := h
    rw [z_frc_eq] at h
    obtain ⟨ρ', g1, g2, g3, g4, g5, g6, g7⟩ := y_new hn hp h0 1 (some p) (fun p' q => by cases q; exact hp0)
    exact ⟨ρ', y_ob 1 n, n + 1, _, g1, g2, g3, g4, g5, y_erel_cons (y_erel_mono g1.1 he) g6 (y_in_iv (by decide) (by decide)), ⟨1, g6, Or.inr ⟨rfl, p, a, g7, by rw [g2]; exact h1, by rw [g3]; exact h2, h3⟩⟩, h⟩
  | .inr (.inr (_ + 4)), h, _ => cases h
theorem y_mem_ok {a : Nat} {ks : List Nat} (h : y_mem a ks = true) : a ∈ ks := by
  induction ks with
  | nil => cases h
  | cons c ks ih =>
    have h : or (Nat.beq a c) (y_mem a ks) = true := h
    rw [Bool.or_eq_true] at h
    rcases h with h | h
    · rw [Nat.eq_of_beq_eq_true h]; exact List.mem_cons_self
    · exact List.mem_cons_of_mem _ (ih h)
theorem y_isK_ok {ks : List Nat} {v : yV} (h : y_isK ks v = true) : ∃ a, v = y_ob 0 a ∧ a ∈ ks := by
  unfold y_isK at h
  split at h
  · exact ⟨_, rfl, y_mem_ok h⟩
  · cases h
theorem y_isN_ok {v : yV} (h : y_isN v = true) : v = y_null ∨ ∃ i, v = y_ob 1 i := by
  unfold y_isN at h
  split at h
  · exact Or.inl rfl
  · exact Or.inr ⟨_, rfl⟩
  · cases h
theorem y_fit_ok {t : yT} {v : yV} {w : Value} (h : y_fit t env v = true) (h0 : ∀ i p, y_ps ρ i = some p → tb.1.length ≤ p) (he : y_erel (y_sg ρ) env) (hg : y_g tb ρ b v w) : y_tv tb (y_ad ρ) (y_tg ρ) t w := by
  match t, h with
  | .inl E, h =>
    obtain ⟨h1, h2⟩ := z_and h
    obtain ⟨x, hx, hi⟩ := y_isI_ok h1 hg
    obtain ⟨D, d1, d2⟩ := y_dm_ok h2 he hi
    exact ⟨x, hx, y_sub_ok d2 d1⟩
  | .inr (.inl ks), h =>
    obtain ⟨a, rfl, h1⟩ := y_isK_ok h
    obtain ⟨q, h2, h3⟩ := hg
    exact ⟨a, h1, q, h2, h3⟩
  | .inr (.inr 0), h => exact y_isL_ok h hg
  | .inr (.inr 1), h =>
    rcases y_isN_ok h with rfl | ⟨i, rfl⟩
    · exact Or.inl hg
    · obtain ⟨x, h1, h2⟩ := hg
      rcases h2 with h2 | ⟨_, p, a, g1, g2, g3, g4⟩
      · exact Or.inl h2.2
      · exact Or.inr ⟨p, a, h0 _ _ g1, g2, g3, g4⟩
  | .inr (.inr 2), h =>
    have h : y_rcv env v (fun kd _ => Nat.beq kd 2) = true := h
    obtain ⟨kd, i, p, a, g1, g2, g3, g4, g5, g6⟩ := y_rcv_ok h he hg
    have := Nat.eq_of_beq_eq_true g6
    subst this
    exact ⟨p, a, h0 _ _ g1, g2, g4 (by decide), g3⟩
  | .inr (.inr 3), h =>
    have h : y_rcv env v (fun kd _ => Nat.beq kd 1) = true := h
    obtain ⟨kd, i, p, a, g1, g2, g3, g4, g5, g6⟩ := y_rcv_ok h he hg
    have := Nat.eq_of_beq_eq_true g6
    subst this
    exact ⟨p, a, h0 _ _ g1, g2, g4 (by decide), g3⟩
  | .inr (.inr (_ + 4)), h => cases h
/-- facts, found -/
theorem y_ff_ok {fx : List yF} {kd i f : Nat} {k : yV → Bool} {no : Bool} (h : y_ff fx kd i f k no = true) (hf : y_fxr tb ρ b cw fx) : (∃ v p a ci vs w, (kd = 0 → i < tb.1.length) ∧ y_at ρ kd i = some p ∧ cw[p]? = some (a, .inr (ci, vs)) ∧ vs[f]? = some w ∧ y_g tb ρ b v w ∧ k v = true) ∨ no = true := by
  induction fx with
  | nil => exact Or.inr h
  | cons q fx ih =>
    have h : cond (and (Nat.beq q.1 kd) (and (Nat.beq q.2.1 i) (Nat.beq q.2.2.1 f))) (k q.2.2.2) (y_ff fx kd i f k no) = true := h
    rcases y_bool h with ⟨hc, h1⟩ | ⟨_, h1⟩
    · obtain ⟨c1, c2⟩ := z_and hc
      obtain ⟨c2, c3⟩ := z_and c2
      have c1 := Nat.eq_of_beq_eq_true c1
      have c2 := Nat.eq_of_beq_eq_true c2
      have c3 := Nat.eq_of_beq_eq_true c3
      obtain ⟨g0, p, a, ci, vs, w, g1, g2, g3, g4⟩ := hf q List.mem_cons_self
      rw [c1, c2] at g0 g1
      rw [c3] at g3
      exact Or.inl ⟨_, p, a, ci, vs, w, g0, g1, g2, g3, g4, h1⟩
    · exact ih h1 (fun p hp => hf p (List.mem_cons_of_mem _ hp))
theorem y_fa_ok {ax : List yA} {kd i : Nat} {j : yV} {k : yV → Bool} {no : Bool} (h : y_fa ax kd i j k no = true) (hf : y_axr tb ρ b cw ax) : (∃ v p a cA len g x, y_at ρ kd i = some p ∧ cw[p]? = some (a, .inl (cA, len, .inl g)) ∧ y_gi (y_sg ρ) j x ∧ y_g tb ρ b v (.int (g x.toNatClampNeg)) ∧ k v = true) ∨ no = true := by
  induction ax with
  | nil => exact Or.inr h
  | cons q ax ih =>
    have h : cond (and (Nat.beq q.1 kd) (and (Nat.beq q.2.1 i) (y_eqv q.2.2.1 j))) (k q.2.2.2) (y_fa ax kd i j k no) = true := h
    rcases y_bool h with ⟨hc, h1⟩ | ⟨_, h1⟩
    · obtain ⟨c1, c2⟩ := z_and hc
      obtain ⟨c2, c3⟩ := z_and c2
      have c1 := Nat.eq_of_beq_eq_true c1
      have c2 := Nat.eq_of_beq_eq_true c2
      have c3 := y_eqv_ok c3
      obtain ⟨_, p, a, cA, len, g, x, g1, g2, g3, _, g4⟩ := hf q List.mem_cons_self
      rw [c1, c2] at g1
      rw [c3] at g3
      exact Or.inl ⟨_, p, a, cA, len, g, x, g1, g2, g3, g4, h1⟩
    · exact ih h1 (fun p hp => hf p (List.mem_cons_of_mem _ hp))
theorem y_kf_ok (kd i f : Nat) (fx : List yF) : ∃ fx', (∀ k : List yF → Bool, y_kf fx kd i f k = k fx') ∧ ∀ q ∈ fx', q ∈ fx ∧ ¬ (q.2.2.1 = f ∧ ((1 ≤ kd ∧ 1 ≤ q.1) ∨ (kd = 0 ∧ q.1 = 0 ∧ q.2.1 = i))) := by
  induction fx with
  | nil => exact ⟨[], fun _ => rfl, fun q hq => by cases hq⟩
  | cons q fx ih =>
    obtain ⟨fx', h1, h2⟩ := ih
    have e : ∀ k : List yF → Bool, y_kf (q :: fx) kd i f k = cond (and (Nat.beq q.2.2.1 f) (cond (Nat.ble 1 kd) (Nat.ble 1 q.1) (and (Nat.beq q.1 0) (Nat.beq q.2.1 i)))) (y_kf fx kd i f k) (y_kf fx kd i f (fun t => k (q :: t))) := fun _ => rfl
    cases hc : and (Nat.beq q.2.2.1 f) (cond (Nat.ble 1 kd) (Nat.ble 1 q.1) (and (Nat.beq q.1 0) (Nat.beq q.2.1 i))) with
    | true => exact ⟨fx', fun k => by rw [e, hc, cond_true, h1], fun p hp => ⟨List.mem_cons_of_mem _ (h2 p hp).1, (h2 p hp).2⟩⟩
    | false =>
      refine ⟨q :: fx', fun k => by rw [e, hc, cond_false, h1], fun p hp => ?_⟩
      rcases List.mem_cons.mp hp with rfl | hp
      · refine ⟨List.mem_cons_self, ?_⟩
        rintro ⟨q1, q2 | q2⟩
        · rw [(z_nb _ _).mpr q1, (Nat.ble_eq).mpr q2.1, (Nat.ble_eq).mpr q2.2] at hc
          cases hc
        · obtain ⟨rfl, q3, q4⟩ := q2
          rw [(z_nb _ _).mpr q1, (z_nb _ _).mpr q3, (z_nb _ _).mpr q4] at hc
          cases hc
      · exact ⟨List.mem_cons_of_mem _ (h2 p hp).1, (h2 p hp).2⟩
theorem y_ka_ok (kd i : Nat) (j : yV) (ax : List yA) : ∃ ax', (∀ k : List yA → Bool, y_ka ax kd i j k = k ax') ∧ ∀ q ∈ ax', q ∈ ax ∧ ¬ ((1 ≤ kd ∧ 1 ≤ q.1) ∨ (kd = 0 ∧ q.1 = 0 ∧ q.2.1 = i ∧ y_ncd q.2.2.1 j = false)) := by
  induction ax with
  | nil => exact ⟨[], fun _ => rfl, fun q hq => by cases hq⟩
  | cons q ax ih =>
    obtain ⟨ax', h1, h2⟩ := ih
    have e : ∀ k : List yA → Bool, y_ka (q :: ax) kd i j k = cond (cond (Nat.ble 1 kd) (Nat.ble 1 q.1) (and (and (Nat.beq q.1 0) (Nat.beq q.2.1 i)) (!(y_ncd q.2.2.1 j)))) (y_ka ax kd i j k) (y_ka ax kd i j (fun t => k (q :: t))) := fun _ => rfl
    cases hc : cond (Nat.ble 1 kd) (Nat.ble 1 q.1) (and (and (Nat.beq q.1 0) (Nat.beq q.2.1 i)) (!(y_ncd q.2.2.1 j))) with
    | true => exact ⟨ax', fun k => by rw [e, hc, cond_true, h1], fun p hp => ⟨List.mem_cons_of_mem _ (h2 p hp).1, (h2 p hp).2⟩⟩
    | false =>
      refine ⟨q :: ax', fun k => by rw [e, hc, cond_false, h1], fun p hp => ?_⟩
      rcases List.mem_cons.mp hp with rfl | hp
      · refine ⟨List.mem_cons_self, ?_⟩
        rintro (q2 | q2)
        · rw [(Nat.ble_eq).mpr q2.1, (Nat.ble_eq).mpr q2.2] at hc
          cases hc
        · obtain ⟨rfl, q3, q4, q5⟩ := q2
          rw [(z_nb _ _).mpr q3, (z_nb _ _).mpr q4, q5] at hc
          cases hc
      · exact ⟨List.mem_cons_of_mem _ (h2 p hp).1, (h2 p hp).2⟩
theorem y_ix_ok {j : yV} {len : Nat} {k : yV → Bool} {x : Int32} (h : y_ix env j len k = true) (he : y_erel (y_sg ρ) env) (hj : y_gi (y_sg ρ) j x) : ∃ j', y_gi (y_sg ρ) j' x ∧ vp_in x len ∧ x.toNatClampNeg < len ∧ x.toNatClampNeg + 2147483648 = z_b x ∧ k j' = true := by
  obtain ⟨j', g1, h1⟩ := y_rs_ok h he hj
  obtain ⟨D, d1, h2⟩ := y_dm_ok h1 he g1
  obtain ⟨h3, h4⟩ := z_cond h2
  obtain ⟨h5, h6⟩ := z_and h3
  have h5 := z_le_of h5
  have d2 := y_sub_ok h6 d1
  have d3 : 2147483648 ≤ z_b x ∧ z_b x ≤ len + 2147483647 := by
    rcases y_in_cons.mp d2 with q | q
    · exact q
    · exact absurd q y_in_nil
  have e1 := y_nn d3.1
  obtain ⟨u, hu⟩ : ∃ u : Nat, x.toBitVec.toNat = u := ⟨_, rfl⟩
  rw [hu] at e1
  have e2 : x = nI u := by
    rw [← hu]
    exact (z_nI_un x).symm
  have e3 : x.toNatClampNeg = u := by
    rw [e2]
    exact nI_clamp (by omega)
  refine ⟨j', g1, ?_, by omega, by omega, h4⟩
  rw [e2]
  exact vp_in_nI (by omega) (by omega)
end YB
