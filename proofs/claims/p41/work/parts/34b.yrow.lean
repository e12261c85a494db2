theorem y_sh_0 {tb : yTb} {kd i : Nat} {f : yC → Bool} (h : y_sh tb kd i f = true) (z : kd = 0) : i < tb.1.length := by
  subst z
  obtain ⟨c, h1, _⟩ := z_opl_ok (l := tb.1) h
  exact (List.getElem?_eq_some_iff.mp h1).1
theorem y_obj_0 {tb : yTb} {kd i ci fl : Nat} {f : yT → Bool} (h : y_obj tb kd i ci fl f = true) : kd = 0 → i < tb.1.length := y_sh_0 h
theorem y_arr_0 {tb : yTb} {kd i : Nat} {f : Nat → Nat → yT → Bool} (h : y_arr tb kd i f = true) : kd = 0 → i < tb.1.length := y_sh_0 h
theorem y_fp_ok {wt : zTB} {cls : List vw_C} {own : String} {x1 x2 x3 j : Nat} (h : (match cls[x1]? with
    | some c => and (and (Nat.blt x2 c.2.2) (z_w wt x3 (.fieldLink own j (c.2.1 x2).1 (c.2.1 x2).2.1 (c.2.1 x2).2.2.1))) (decide ((c.2.1 x2).2.2.2 = false))
    | none => false) = true) : ∃ c, cls[x1]? = some c ∧ x2 < c.2.2 ∧ Jvm.Cond.fieldLink own j (c.2.1 x2).1 (c.2.1 x2).2.1 (c.2.1 x2).2.2.1 ∈ z_G wt ∧ (c.2.1 x2).2.2.2 = false := by
  cases hc : cls[x1]? with
  | none => rw [hc] at h; cases h
  | some c =>
    rw [hc] at h
    obtain ⟨h1, h2⟩ := z_and h
    exact ⟨c, rfl, z_lt_of (z_and h1).1, z_w_ok (z_and h1).2, of_decide_eq_true h2⟩
theorem y_shape {tb : yTb} {tg dy : List yC} {pp : Nat} {c : yC} (h1 : tg = tb.1 ++ dy) (h2 : ∀ c ∈ dy, c = tb.2.1 ∨ c = tb.2.2.1) (h3 : tg[pp]? = some c) : c ∈ tb.1 ∨ c = tb.2.1 ∨ c = tb.2.2.1 := by
  have h4 := List.mem_of_getElem? h3
  rw [h1] at h4
  rcases List.mem_append.mp h4 with h4 | h4
  · exact Or.inl h4
  · exact Or.inr (h2 c h4)
theorem y_wfs {tb : yTb} {ρ : yRo} {kd i f pp : Nat} (h : y_wf tb kd i f = true) (hat : y_at ρ kd i = some pp) (hps : ∀ i p, y_ps ρ i = some p → tb.1.length ≤ p) (hl : pp < tb.1.length) : (pp, f) ∈ tb.2.2.2.2.2.1 := by
  cases kd with
  | zero =>
    have e : i = pp := Option.some.inj hat
    rw [← e]
    exact y_wf_ok h
  | succ j =>
    have := hps _ _ hat
    omega
theorem y_wft {tb : yTb} {ρ : yRo} {kd i f pp : Nat} (h : y_wf tb kd i f = true) (hat : y_at ρ kd i = some pp) (hk : kd = 0 → i < tb.1.length) (hl : tb.1.length ≤ pp) : tb.2.2.2.2.2.2.2 = true := by
  cases kd with
  | zero =>
    have e : i = pp := Option.some.inj hat
    have := hk rfl
    omega
  | succ j => exact h
theorem y_was {tb : yTb} {ρ : yRo} {kd i pp : Nat} (h : y_wa tb kd i = true) (hat : y_at ρ kd i = some pp) (hps : ∀ i p, y_ps ρ i = some p → tb.1.length ≤ p) (hl : pp < tb.1.length) : pp ∈ tb.2.2.2.2.2.2.1 := by
  cases kd with
  | zero =>
    have e : i = pp := Option.some.inj hat
    rw [← e]
    exact y_mem_ok h
  | succ j =>
    have := hps _ _ hat
    omega
theorem y_wat {tb : yTb} {ρ : yRo} {kd i pp : Nat} (h : y_wa tb kd i = true) (hat : y_at ρ kd i = some pp) (hk : kd = 0 → i < tb.1.length) (hl : tb.1.length ≤ pp) : tb.2.2.2.2.2.2.2 = true := by
  cases kd with
  | zero =>
    have e : i = pp := Option.some.inj hat
    have := hk rfl
    omega
  | succ j => exact h
theorem y_cmpb (x y : Int64) : y_in [(2147483647, 2147483649)] (z_b (lg_cmp x y)) := by
  have h : lg_cmp x y = 1 ∨ lg_cmp x y = 0 ∨ lg_cmp x y = -1 := by
    unfold lg_cmp
    split
    · exact Or.inl rfl
    · split
      · exact Or.inr (Or.inl rfl)
      · exact Or.inr (Or.inr rfl)
  rcases h with h | h | h <;> rw [h] <;> exact y_in_iv (by decide) (by decide)
theorem y_le_len {sg sg' : List Int32} (h : y_le sg sg') : sg.length ≤ sg'.length := by
  by_cases hl : sg.length ≤ sg'.length
  · exact hl
  · have h1 : sg'.length < sg.length := by omega
    have h2 := h sg'.length sg[sg'.length] (List.getElem?_eq_getElem h1)
    have := (List.getElem?_eq_some_iff.mp h2).1
    omega
theorem y_lk_ex {env : yEnv} {i : Nat} {k : yD → Bool} (h : y_lk env i k = true) : ∃ D, k D = true := by
  induction env with
  | nil => cases h
  | cons q env ih =>
    rcases y_bool (show cond (Nat.beq q.1 i) (k q.2) (y_lk env i k) = true from h) with ⟨_, h1⟩ | ⟨_, h1⟩
    · exact ⟨_, h1⟩
    · exact ih h1
theorem y_rs_int {env : yEnv} {v : yV} {k : yV → Bool} (h : y_rs env v k = true) : ∃ v', k v' = true ∧ (y_isI v' = true → y_isI v = true) := by
  match v, h with
  | .inl u, h => exact ⟨_, h, fun _ => rfl⟩
  | .inr (.inl i), h => exact (by
      have : ∀ (env' : yEnv), y_lk env' i (fun D => y_pt D (fun a => z_frc (z_bu a) fun u => k (.inl u)) (k (.inr (.inl i)))) = true → ∃ v', k v' = true := by
        intro env'
        induction env' with
        | nil => intro z; cases z
        | cons q env' ih =>
          intro z
          rcases y_bool (show cond (Nat.beq q.1 i) (y_pt q.2 (fun a => z_frc (z_bu a) fun u => k (.inl u)) (k (.inr (.inl i)))) (y_lk env' i (fun D => y_pt D (fun a => z_frc (z_bu a) fun u => k (.inl u)) (k (.inr (.inl i))))) = true from z) with ⟨_, z⟩ | ⟨_, z⟩
          · unfold y_pt at z
            split at z
            · rcases y_bool z with ⟨_, z⟩ | ⟨_, z⟩
              · have z := (z_frc_eq _ _).symm.trans z; exact ⟨_, z⟩
              · exact ⟨_, z⟩
            · exact ⟨_, z⟩
          · exact ih z
      obtain ⟨v', h'⟩ := this env h
      exact ⟨v', h', fun _ => rfl⟩)
  | .inr (.inr r), h => exact ⟨_, h, fun z => z⟩
theorem y_dm_int {env : yEnv} {v : yV} {k : yD → Bool} (h : y_dm env v k = true) : y_isI v = true := by
  cases v with
  | inl u => rfl
  | inr r =>
    cases r with
    | inl i => rfl
    | inr _ => cases h
theorem y_fnd_int {op : Nat} {a b : yV} {rl : List yR} {k : Nat → Bool} {f : Bool} (h : y_fnd op a b rl k f = true) : (y_isI a = true ∧ y_isI b = true) ∨ f = true := by
  induction rl with
  | nil => exact Or.inr h
  | cons q rl ih =>
    rcases y_bool (show cond (and (Nat.beq q.1 op) (and (y_eqv q.2.1 a) (y_eqv q.2.2.1 b))) (k q.2.2.2) (y_fnd op a b rl k f) = true from h) with ⟨hc, _⟩ | ⟨_, h1⟩
    · obtain ⟨_, c2⟩ := z_and hc
      obtain ⟨c2, c3⟩ := z_and c2
      have key : ∀ {u v : yV}, y_eqv u v = true → y_isI v = true := by
        intro u v z
        unfold y_eqv at z
        split at z
        · rfl
        · rfl
        · cases z
      exact Or.inl ⟨key c2, key c3⟩
    · exact ih h1
theorem y_nrm_int {rl : List yR} : ∀ (fu : Nat) {v : yV} {o : Nat} {k : yV → Nat → Bool}, y_nrm rl fu v o k = true → ∃ v' o', k v' o' = true ∧ (y_isI v' = true → y_isI v = true)
  | 0, v, o, k, h => ⟨v, o, h, id⟩
  | fu + 1, v, o, k, h => by
    match v, h with
    | .inl u, h => exact ⟨_, o, h, id⟩
    | .inr (.inr w), h => exact ⟨_, o, h, id⟩
    | .inr (.inl i), h =>
      have gen : ∀ (l : List yR), y_fl (fun (q : yR) r => cond (Nat.beq q.2.2.2 i) (match q.1, q.2.1, q.2.2.1 with
          | 0, .inr (.inl j), .inl c => z_frc (z_un (nI o + nI c)) fun o => y_nrm rl fu (y_sy j) o k
          | 0, .inl c, .inr (.inl j) => z_frc (z_un (nI o + nI c)) fun o => y_nrm rl fu (y_sy j) o k
          | 1, .inr (.inl j), .inl c => z_frc (z_un (nI o - nI c)) fun o => y_nrm rl fu (y_sy j) o k
          | _, _, _ => r) r) (k (.inr (.inl i)) o) l = true → ∃ v' o', k v' o' = true ∧ (y_isI v' = true → y_isI (y_sy i) = true) := by
        intro l
        induction l with
        | nil => intro h; exact ⟨_, o, h, fun _ => rfl⟩
        | cons q l ih =>
          intro h
          rcases y_bool (show cond (Nat.beq q.2.2.2 i) _ _ = true from h) with ⟨hc, h1⟩ | ⟨_, h1⟩
          · split at h1
            · rw [z_frc_eq] at h1
              obtain ⟨v', o', k1, _⟩ := y_nrm_int fu h1
              exact ⟨v', o', k1, fun _ => rfl⟩
            · rw [z_frc_eq] at h1
              obtain ⟨v', o', k1, _⟩ := y_nrm_int fu h1
              exact ⟨v', o', k1, fun _ => rfl⟩
            · rw [z_frc_eq] at h1
              obtain ⟨v', o', k1, _⟩ := y_nrm_int fu h1
              exact ⟨v', o', k1, fun _ => rfl⟩
            · exact ih h1
          · exact ih h1
      exact gen rl h
theorem y_bn1_int {op : Nat} {a b : yV} {rl : List yR} {k : Nat → Bool} {f : Bool} (h : y_bn1 op a b rl k f = true) : (y_isI a = true ∧ y_isI b = true) ∨ f = true := by
  rcases y_bool h with ⟨_, h⟩ | ⟨_, h⟩
  · obtain ⟨a', oa, h, ia⟩ := y_nrm_int 64 h
    obtain ⟨b', ob, h, ib⟩ := y_nrm_int 64 h
    rcases y_bool h with ⟨hc, h⟩ | ⟨_, h⟩
    · refine Or.inl ⟨ia ?_, ib ?_⟩
      · unfold y_eqv at hc
        split at hc
        · rfl
        · rfl
        · cases hc
      · unfold y_eqv at hc
        split at hc
        · rfl
        · rfl
        · cases hc
    · exact Or.inr h
  · exact Or.inr h
theorem y_bin_int {op : Nat} {a b : yV} {n : Nat} {env : yEnv} {rl : List yR} {k : yV → Nat → yEnv → List yR → Bool} (h : y_bin op a b n env rl k = true) : y_isI a = true ∧ y_isI b = true := by
  obtain ⟨a', h1, ha⟩ := y_rs_int h
  obtain ⟨b', h2, hb⟩ := y_rs_int h1
  have gen : ∀ a' b' : yV, (y_isI a' = true → y_isI a = true) → (y_isI b' = true → y_isI b = true) → y_bn1 op a' b' rl (fun u => k (.inl u) n env rl) (y_fnd op a' b' rl (fun d => k (y_sy d) n env rl) (y_dm env a' fun Da => y_dm env b' fun Db => y_dop op Da Db fun D => z_frc (n + 1) fun n' => k (y_sy n) n' ((n, D) :: env) ((op, a', b', n) :: rl))) = true → y_isI a = true ∧ y_isI b = true := by
    intro a' b' ha hb z
    rcases y_bn1_int z with z | z
    · exact ⟨ha z.1, hb z.2⟩
    rcases y_fnd_int z with z | z
    · exact ⟨ha z.1, hb z.2⟩
    · refine ⟨ha (y_dm_int z), hb ?_⟩
      have : ∀ (v : yV) (k : yD → Bool), y_dm env v k = true → ∃ D, k D = true := by
        intro v k z
        cases v with
        | inl u => exact ⟨_, by have z : z_frc (z_bu u) (fun b => k [(b, b)]) = true := z; rw [z_frc_eq] at z; exact z⟩
        | inr r =>
          cases r with
          | inr _ => cases z
          | inl i =>
            have z : y_lk env i k = true := z
            exact y_lk_ex z
      obtain ⟨D, z⟩ := this _ _ z
      exact y_dm_int z
  cases a' with
  | inr r => exact gen _ _ ha hb h2
  | inl u =>
    cases b' with
    | inr r => exact gen _ _ ha hb h2
    | inl v => exact ⟨ha rfl, hb rfl⟩
theorem y_nul_ok {tb : yTb} {ρ : yRo} {b : Nat → Nat} {v : yV} {w : Value} {rl : List yR} {env : yEnv} {T F : yEnv → Bool} (h : y_nul v rl env T F = true) (he : y_erel (y_sg ρ) env) (hr : y_rrel (y_sg ρ) rl) (hg : y_g tb ρ b v w) : (w = .null ∧ ∃ e, y_erel (y_sg ρ) e ∧ T e = true) ∨ (∃ a, w = .ref a ∧ ∃ e, y_erel (y_sg ρ) e ∧ F e = true) := by
  match v, h, hg with
  | .inr (.inr (.inl none)), h, hg => exact Or.inl ⟨hg, env, he, h⟩
  | .inr (.inr (.inl (some (0, _)))), h, ⟨a, _, h2⟩ => exact Or.inr ⟨a, h2, env, he, h⟩
  | .inr (.inr (.inl (some (j + 1, i)))), h, ⟨x, h1, h2⟩ =>
    obtain ⟨k1, k2⟩ := y_br_ok (c := .eq) (a := y_sy i) (b := .inl 0) h he hr (show y_gi (y_sg ρ) (y_sy i) x from h1) (show y_gi (y_sg ρ) (.inl 0) 0 from rfl)
    rcases h2 with ⟨rfl, h2⟩ | ⟨rfl, p, a, _, _, _, h2⟩
    · exact Or.inl ⟨h2, k1 rfl⟩
    · exact Or.inr ⟨a, h2, k2 (by show ¬ (1 : Int32) = 0; decide)⟩
  | .inl _, h, _ => cases h
  | .inr (.inl _), h, _ => cases h
  | .inr (.inr (.inr _)), h, _ => cases h
theorem y_LR_del2 {tb : yTb} {ρ : yRo} {b : Nat → Nat} (i : Nat) : ∀ {lo : yLo} {lv : List (Nat × Value)}, y_LR (y_g tb ρ b) lo lv → y_LR (y_g tb ρ b) ((lo.filter (fun q => !(or (Nat.beq q.1 i) (and (Nat.beq (q.1 + 1) i) (y_isL q.2))))).filter (fun q => !(or (Nat.beq q.1 (i + 1)) (and (Nat.beq (q.1 + 1) (i + 1)) (y_isL q.2))))) (lv.filter (fun q => !(q.1 == i) && (!(q.1 == i + 1) && !(q.1 + 1 == i && q.2.category == 2))))
  | [], [], _ => trivial
  | q :: qs, r :: rs, hs => by
    have h1 := y_LR_del2 i hs.2
    rw [List.filter_filter] at h1 ⊢
    have hc : (!(r.1 == i) && (!(r.1 == i + 1) && !(r.1 + 1 == i && r.2.category == 2))) = ((!(or (Nat.beq q.1 (i + 1)) (and (Nat.beq (q.1 + 1) (i + 1)) (y_isL q.2)))) && !(or (Nat.beq q.1 i) (and (Nat.beq (q.1 + 1) i) (y_isL q.2)))) := by
      rw [y_cat2 hs.1.2, hs.1.1, z_nbe, z_nbe, z_nbe]
      show _ = ((!(or (Nat.beq r.1 (i + 1)) (and (Nat.beq r.1 i) (y_isL q.2)))) && !(or (Nat.beq r.1 i) (and (Nat.beq (r.1 + 1) i) (y_isL q.2))))
      cases Nat.beq r.1 i <;> cases Nat.beq r.1 (i + 1) <;> cases Nat.beq (r.1 + 1) i <;> cases y_isL q.2 <;> rfl
    rw [List.filter_cons, List.filter_cons, hc]
    cases hb : ((!(or (Nat.beq q.1 (i + 1)) (and (Nat.beq (q.1 + 1) (i + 1)) (y_isL q.2)))) && !(or (Nat.beq q.1 i) (and (Nat.beq (q.1 + 1) i) (y_isL q.2))))
    · exact h1
    · exact ⟨hs.1, h1⟩
  | [], _ :: _, hs => hs.elim
  | _ :: _, [], hs => hs.elim
theorem y_wl_ok {wt : zTB} {n j : Nat} {own : String} (h : y_wl wt n own j = true) : ∃ v, Jvm.Cond.constantLong own j v ∈ z_G wt := by
  unfold y_wl at h
  rw [z_at_eq] at h
  cases hl : wt[n / 1000]? with
  | none => rw [hl] at h; cases h
  | some l =>
    rw [hl] at h
    dsimp only at h
    rw [z_at_eq] at h
    split at h
    · rename_i a i v hc
      obtain ⟨h1, h2⟩ := z_and h
      have h1 := of_decide_eq_true h1
      have h2 := of_decide_eq_true h2
      subst h1
      subst h2
      exact ⟨v, List.mem_filter.mpr ⟨List.mem_flatten.mpr ⟨l, List.mem_of_getElem? hl, List.mem_of_getElem? hc⟩, rfl⟩⟩
    · cases h
noncomputable def y_oks (wt : zTB) (nw : List Jvm.Cond) (mr : yMR) (j x2 x3 : Nat) (cm : yMR) : Bool := and (Nat.ble 100 (y_ci cm)) (and (decide ((parseMethodDescriptor (y_y cm).desc).map (fun d => d.parameters.length) = some (x2 % 100))) (cond (Nat.ble 100 (x2 % 1000)) (match nw[x3]? with
      | some (.methodLinkNest a b y _) => and (and (decide (a = (y_y mr).cls)) (decide (b = j))) (decide (y = y_y cm))
      | _ => false) (z_w wt x3 (.methodLink (y_y mr).cls j (y_y cm)))))
theorem y_byr (x : Int32) : y_in [(2147483520, 2147483775)] (z_b (vp_nar .byte x)) := by
  have h1 := z_b_int (vp_nar .byte x)
  have h2 : vp_nar .byte x = x.toInt8.toInt32 := rfl
  have h3 : (vp_nar .byte x).toInt = x.toInt8.toInt := by rw [h2, Int8.toInt_toInt32]
  have h4 := Int8.le_toInt x.toInt8
  have h5 := Int8.toInt_lt x.toInt8
  exact y_in_cons.mpr (Or.inl ⟨by omega, by omega⟩)
theorem y_b_of {v : Int} (h1 : -2147483648 ≤ v) (h2 : v ≤ 2147483647) : (z_b (Int32.ofInt v) : Int) = v + 2147483648 := by
  rw [z_b_int, Int32.toInt_ofInt_of_le (by simpa using h1) (by omega)]
theorem y_ks_int {a : yV} {f : Nat → Bool} {g : Bool} (h : y_ks a f g = true) : y_isI a = true := by
  match a, h with
  | .inl u, _ => rfl
  | .inr (.inl j), _ => rfl
  | .inr (.inr _), h => cases h
theorem y_ks_ok {a : yV} {f : Nat → Bool} {g : Bool} (h : y_ks a f g = true) : (∃ u, a = .inl u ∧ f u = true) ∨ ∃ j, a = y_sy j ∧ g = true := by
  match a, h with
  | .inl u, h => exact Or.inl ⟨u, rfl, h⟩
  | .inr (.inl j), h => exact Or.inr ⟨j, rfl, h⟩
  | .inr (.inr _), h => cases h
theorem y_tsw_ok {l0 : Int} {q : Nat} {a : yV} {rl : List yR} {env : yEnv} {f : Nat → yEnv → Bool} {sg : List Int32} {x : Int32} (he : y_erel sg env) (hr : y_rrel sg rl) (ia : y_gi sg a x) (offs : List Int) : ∀ (i : Nat), y_tsw l0 q a rl env f offs i = true → ∀ kx : Nat, x.toInt = l0 + (i : Int) + (kx : Int) → kx < offs.length → ∃ o, offs[kx]? = some o ∧ ∃ tg : Nat, (q : Int) + o = (tg : Int) ∧ ∃ e, y_erel sg e ∧ f tg e = true := by
  induction offs with
  | nil => intro i _ kx _ hk; exact absurd hk (Nat.not_lt_zero _)
  | cons o os ih =>
    intro i h kx hx hk
    obtain ⟨h1, h2⟩ := z_and (show and (z_frc (z_un (Int32.ofInt (l0 + (i : Int)))) fun u => y_eq a (.inl u) env fun e => y_pr rl e fun e => z_to q o fun tg => f tg e) (y_tsw l0 q a rl env f os (i + 1)) = true from h)
    cases kx with
    | zero =>
      rw [z_frc_eq] at h1
      have hxx : Int32.ofInt (l0 + (i : Int)) = x := by
        rw [show l0 + (i : Int) = x.toInt by omega]
        exact Int32.ofInt_toInt x
      obtain ⟨e0, he0, h3⟩ := y_eq_ok h1 he ia (show y_gi sg (.inl (z_un (Int32.ofInt (l0 + (i : Int))))) (Int32.ofInt (l0 + (i : Int))) from (z_nI_un _).symm) (by rw [hxx])
      obtain ⟨e1, he1, h4⟩ := y_pr_ok hr h3 he0
      obtain ⟨tg, ht, h5⟩ := z_to_ok h4
      exact ⟨o, rfl, tg, ht, e1, he1, h5⟩
    | succ k =>
      obtain ⟨o', z1, z2⟩ := ih (i + 1) h2 k (by omega) (by rw [List.length_cons] at hk; omega)
      exact ⟨o', by rw [List.getElem?_cons_succ]; exact z1, z2⟩
theorem y_lsw_ok {d : Int} {q : Nat} {a : yV} {rl : List yR} {env : yEnv} {f : Nat → yEnv → Bool} {sg : List Int32} {x : Int32} (he : y_erel sg env) (hr : y_rrel sg rl) (ia : y_gi sg a x) (ps : List (Int × Int)) : y_lsw q a rl env f ps = true → (∃ tg : Nat, (q : Int) + Op.lookupswitch.offset ps d x.toInt = (tg : Int) ∧ ∃ e, y_erel sg e ∧ f tg e = true) ∨ ∀ p ∈ ps, p.1 ≠ x.toInt := by
  induction ps with
  | nil => intro _; exact Or.inr (fun p hp => by cases hp)
  | cons p ps ih =>
    intro h
    obtain ⟨h1, h2⟩ := z_and (show and (z_frc (z_un (Int32.ofInt p.1)) fun u => y_eq a (.inl u) env fun e => y_pr rl e fun e => z_to q p.2 fun tg => f tg e) (y_lsw q a rl env f ps) = true from h)
    obtain ⟨pk, po⟩ := p
    rw [Op.lookupswitch.offset_cons]
    by_cases hk : pk = x.toInt
    · rw [if_pos hk]
      rw [z_frc_eq] at h1
      have hxx : Int32.ofInt pk = x := by
        rw [hk]
        exact Int32.ofInt_toInt x
      obtain ⟨e0, he0, h3⟩ := y_eq_ok h1 he ia (show y_gi sg (.inl (z_un (Int32.ofInt pk))) (Int32.ofInt pk) from (z_nI_un _).symm) (by rw [hxx])
      obtain ⟨e1, he1, h4⟩ := y_pr_ok hr h3 he0
      obtain ⟨tg, ht, h5⟩ := z_to_ok h4
      exact Or.inl ⟨tg, ht, e1, he1, h5⟩
    · rw [if_neg hk]
      rcases ih h2 with z | z
      · exact Or.inl z
      · refine Or.inr (fun p hp => ?_)
        rcases List.mem_cons.mp hp with rfl | hp
        · exact hk
        · exact z p hp

section YJ
variable {wt : zTB} {nw : List Jvm.Cond} {cls : List vw_C} {tb : yTb} {l : Launch} {D : va_G} {K : va_W → Prop} {b : Nat → Nat}
variable {s : State} {A : Nat → Prop} {cw0 : va_W} {ρ : yRo} {H : Heap} {locs : List Loc} {cw : va_W} {tys : List (ClassId × FieldType)} {n : Nat} {env : yEnv} {h : yHp}
theorem y_wasP {kd i pp : Nat} (h : y_wa tb kd i = true) (hl : (!(y_lgd tb kd i)) = true) (hat : y_at ρ kd i = some pp) (hps : ∀ i p, y_ps ρ i = some p → tb.1.length ≤ p) (hp : pp < tb.1.length) : pp ∈ (y_plw tb.2.2.2.2.2).2.1 := by
  refine List.mem_filter.mpr ⟨y_was h hat hps hp, decide_eq_true fun z => ?_⟩
  cases kd with
  | zero =>
    have e : i = pp := Option.some.inj hat
    subst e
    rw [show y_lgd tb 0 i = true from y_mem_true z] at hl
    cases hl
  | succ j =>
    have := hps _ _ hat
    omega
theorem y_lgp_ok {kd i f : Nat} {v : yV} {fx : List yF} {lg : List yLg} {k : List yLg → Bool} (h : y_lgp tb kd i f v fx lg k = true) (hf : y_fxr tb ρ b cw fx) : ∃ lg', ((lg' = lg ∧ y_lgf tb kd i f = false) ∨ (kd = 0 ∧ y_isI v = true ∧ (lg' = (1, i, .inl f, v) :: lg ∨ ∃ w, lg' = (1, i, .inl f, v) :: (3, i, .inl f, w) :: lg ∧ ∃ p a ci vs y, p = i ∧ cw[p]? = some (a, .inr (ci, vs)) ∧ y_gi (y_sg ρ) w y ∧ vs[f]? = some (.int y)))) ∧ k lg' = true := by
  rcases y_bool (show cond (y_lgf tb kd i f) (cond (y_isI v) (y_ff fx 0 i f (fun w => cond (y_isI w) (k ((1, i, .inl f, v) :: (3, i, .inl f, w) :: lg)) false) (k ((1, i, .inl f, v) :: lg))) false) (k lg) = true from h) with ⟨h1, h2⟩ | ⟨h1, h2⟩
  · obtain ⟨h3, h4⟩ := z_cond h2
    have hk : kd = 0 := by
      cases kd with
      | zero => rfl
      | succ _ => cases h1
    rcases y_ff_ok h4 hf with ⟨w, p, a, ci, vs, ww, _, g1, g2, g3, g4, g5⟩ | h5
    · obtain ⟨g6, g7⟩ := z_cond g5
      obtain ⟨y, rfl, g8⟩ := y_isI_ok g6 g4
      have e : i = p := Option.some.inj g1
      exact ⟨_, Or.inr ⟨hk, h3, Or.inr ⟨w, rfl, p, a, ci, vs, y, e.symm, g2, g8, g3⟩⟩, g7⟩
    · exact ⟨_, Or.inr ⟨hk, h3, Or.inl rfl⟩, h5⟩
  · exact ⟨_, Or.inl ⟨rfl, h1⟩, h2⟩
theorem y_KL_put {kd i f pp a ci : Nat} {v : yV} {w : Value} {vs : List Value} {lg lg' : List yLg} (hKK : y_KL tb K (y_sg ρ) lg cw) (hl : (lg' = lg ∧ y_lgf tb kd i f = false) ∨ (kd = 0 ∧ y_isI v = true ∧ (lg' = (1, i, .inl f, v) :: lg ∨ ∃ w, lg' = (1, i, .inl f, v) :: (3, i, .inl f, w) :: lg ∧ ∃ p a ci vs y, p = i ∧ cw[p]? = some (a, .inr (ci, vs)) ∧ y_gi (y_sg ρ) w y ∧ vs[f]? = some (.int y)))) (r1 : cw[pp]? = some (a, .inr (ci, vs))) (g0 : y_g tb ρ b v w) (hat : y_at ρ kd i = some pp) (hk0 : kd = 0 → i < tb.1.length) (h1 : pp < tb.1.length → (pp, f) ∈ tb.2.2.2.2.2.1) (h2 : tb.1.length ≤ pp → tb.2.2.2.2.2.2.2 = true) (hps : ∀ i p, y_ps ρ i = some p → tb.1.length ≤ p) : y_KL tb K (y_sg ρ) lg' (cw.set pp (a, .inr (ci, vs.set f w))) := by
  rcases hl with ⟨rfl, hl⟩ | ⟨rfl, hI, hl⟩
  · refine y_KL_same hKK (y_same_obj r1 (fun z => List.mem_filter.mpr ⟨h1 z, decide_eq_true fun q => ?_⟩) h2)
    cases kd with
    | zero =>
      have e : i = pp := Option.some.inj hat
      subst e
      rw [show y_lgf tb 0 i f = true from y_wf_true q] at hl
      cases hl
    | succ j =>
      have := hps _ _ hat
      omega
  · have e : i = pp := Option.some.inj hat
    subst e
    obtain ⟨xv, rfl, iv⟩ := y_isI_ok hI g0
    obtain ⟨cwB, b1, b2⟩ := hKK
    rcases hl with rfl | ⟨w, rfl, p, a', ci', vs', y, rfl, e1, e2, e3⟩
    · exact ⟨cwB, b1, cw, a, ci, vs, f, xv, rfl, b2, hk0 rfl, r1, iv, y_same_refl _ _ _⟩
    · exact ⟨cwB, b1, cw, a, ci, vs, f, xv, rfl, ⟨cw, a', ci', vs', f, y, rfl, b2, hk0 rfl, e1, e2, e3, y_same_refl _ _ _⟩, hk0 rfl, r1, iv, y_same_refl _ _ _⟩
theorem y_ix_int {j : yV} {len : Nat} {k : yV → Bool} (h : y_ix env j len k = true) : y_isI j = true := by
  obtain ⟨j', h1, h2⟩ := y_rs_int h
  exact h2 (y_dm_int h1)
theorem y_lod_ok {kind : Nat} (hkind : kind < 3) {a j : yV} {va vj : Value} {k : yV → Nat → yEnv → yHp → Bool} (hev : y_lod tb kind a j n env h k = true) (hSt : y_St cls D K tb b s A cw0 ρ H locs cw tys n env h) (ga : y_g tb ρ b a va) (gj : y_g tb ρ b j vj) : ∃ (pp adr : Nat) (cA : ClassId) (len : Nat) (f : Nat → Int32) (t0 : Nat) (x : Int32), va = .ref adr ∧ vj = .int x ∧ cw[pp]? = some (adr, .inl (cA, len, .inl f)) ∧ tys[t0]? = some (cA, z_kty cls kind) ∧ vp_in x len ∧ ∃ ρ' v n' env' h', y_rle ρ ρ' ∧ y_St cls D K tb b s A cw0 ρ' H locs cw tys n' env' h' ∧ y_g tb ρ' b v (.int (f x.toNatClampNeg)) ∧ k v n' env' h' = true := by
  obtain ⟨hK, hP, hD, hS0, had, hW, hKK, hsame, he, hrl, hfx, hax, hnl, hps, hps0⟩ := id hSt
  obtain ⟨kd, i, pp, adr, t1, t2, rfl, t4, t5, h1⟩ := y_rcv_ok hev he ga
  obtain ⟨dy, hdy, hdy2⟩ := hW.2.1
  have hk0 := y_arr_0 h1
  obtain ⟨q, len, ty, o1, h2⟩ := y_arr_ok h1 t1 t4 hdy
  obtain ⟨hq, h3⟩ := z_cond h2
  have hq := Nat.eq_of_beq_eq_true hq
  subst hq
  obtain ⟨cA, d, t0, r1, r2, r3⟩ := y_crow hW had t2 o1
  have r4 : ∃ f, d = .inl f ∧ ∀ j, j < len → y_tv tb (cw.map Prod.fst) (y_tg ρ) ty (.int (f j)) := by
    match q, hkind, r3 with
    | 0, _, r3 => exact r3
    | 1, _, r3 => exact r3
    | 2, _, r3 => exact r3
  obtain ⟨f, rfl, r5⟩ := r4
  obtain ⟨x, rfl, ij⟩ := y_isI_ok (y_ix_int h3) gj
  obtain ⟨j', ij', x1, x2, x3, h4⟩ := y_ix_ok h3 he ij
  refine ⟨pp, adr, cA, len, f, t0, x, rfl, rfl, r1, r2, x1, ?_⟩
  rcases y_fa_ok h4 hax with ⟨v, p', a', cA', len', g, x', f1, f2, f3, f4, h5⟩ | h5
  · rw [t1] at f1
    cases f1
    rw [r1] at f2
    cases f2
    have := y_gi_fun f3 ij'
    subst this
    exact ⟨ρ, v, n, env, h, y_rle_refl ρ, hSt, f4, h5⟩
  · have hv := r5 x.toNatClampNeg x2
    rw [← had] at hv
    obtain ⟨ρ', v, n', env', q1, q2, q3, q4, q5, q6, q7, h6⟩ := y_nv_ok (b := b) h5 hnl hps hps0 he hv
    refine ⟨ρ', v, n', env', (h.1, h.2.1, (kd, i, j', v) :: h.2.2.1, h.2.2.2), q1, ⟨hK, hP, hD, hS0, by rw [q2]; exact had, by rw [q3]; exact hW, y_KL_mono q1 hKK, hsame, q6, y_rrel_mono q1.1 hrl, y_fxr_mono q1 hfx, ?_, q4, q5.1, q5.2⟩, q7, h6⟩
    intro qq hqq
    rcases List.mem_cons.mp hqq with rfl | hqq
    · exact ⟨hk0, pp, adr, cA, len, f, x, y_at_mono q1 t1, r1, y_gi_mono q1.1 ij', x3, q7⟩
    · exact y_axr_mono q1 hax qq hqq
theorem y_sto_ok {kind : Nat} (hkind : kind < 3) {a j v : yV} {va vj vv : Value} {k : yHp → Bool} (hev : y_sto tb kind a j v env h k = true) (hSt : y_St cls D K tb b s A cw0 ρ H locs cw tys n env h) (ga : y_g tb ρ b a va) (gj : y_g tb ρ b j vj) (gv : y_g tb ρ b v vv) : ∃ (pp adr : Nat) (cA : ClassId) (len : Nat) (f : Nat → Int32) (t0 : Nat) (x : Int32) (ty : yT) (h' : yHp), va = .ref adr ∧ vj = .int x ∧ cw[pp]? = some (adr, .inl (cA, len, .inl f)) ∧ tys[t0]? = some (cA, z_kty cls kind) ∧ vp_in x len ∧ x.toNatClampNeg < len ∧ (y_tv tb (y_ad ρ) (y_tg ρ) ty vv ∧ ∃ x', vv = .int x') ∧ k h' = true ∧
    ∀ (x' : Int32) (H1 : Heap) (locs1 : List Loc), vv = .int x' → va_P D cls (cw.set pp (adr, .inl (cA, len, .inl (upd f x.toNatClampNeg x')))) H1 → va_D A (cw.set pp (adr, .inl (cA, len, .inl (upd f x.toNatClampNeg x')))) → va_S A s.heap H1 locs1 → y_St cls D K tb b s A cw0 ρ H1 locs1 (cw.set pp (adr, .inl (cA, len, .inl (upd f x.toNatClampNeg x')))) tys n env h' := by
  obtain ⟨hK, hP, hD, hS0, had, hW, hKK, hsame, he, hrl, hfx, hax, hnl, hps, hps0⟩ := id hSt
  obtain ⟨kd, i, pp, adr, t1, t2, rfl, t4, t5, h0⟩ := y_rcv_ok hev he ga
  obtain ⟨hwa, h1⟩ := z_cond h0
  obtain ⟨dy, hdy, hdy2⟩ := hW.2.1
  have hk0 := y_arr_0 h1
  obtain ⟨q, len, ty, o1, h2⟩ := y_arr_ok h1 t1 t4 hdy
  obtain ⟨hq, h3⟩ := z_cond h2
  obtain ⟨hq, hft⟩ := z_and hq
  obtain ⟨hI, hft⟩ := z_and hft
  have hq := Nat.eq_of_beq_eq_true hq
  subst hq
  obtain ⟨cA, d, t0, r1, r2, r3⟩ := y_crow hW had t2 o1
  have r4 : ∃ f, d = .inl f ∧ ∀ j, j < len → y_tv tb (cw.map Prod.fst) (y_tg ρ) ty (.int (f j)) := by
    match q, hkind, r3 with
    | 0, _, r3 => exact r3
    | 1, _, r3 => exact r3
    | 2, _, r3 => exact r3
  obtain ⟨f, rfl, r5⟩ := r4
  obtain ⟨x, rfl, ij⟩ := y_isI_ok (y_ix_int h3) gj
  obtain ⟨j', ij', x1, x2, x3, h4⟩ := y_ix_ok h3 he ij
  obtain ⟨ax', k1, k2⟩ := y_ka_ok kd i j' h.2.2.1
  have h5 := (k1 _).symm.trans h4
  have hv := y_fit_ok hft hps0 he gv
  obtain ⟨lg', h6, hlg'⟩ : ∃ lg', k (h.1, h.2.1, (kd, i, j', v) :: ax', lg') = true ∧ ∀ x' : Int32, vv = .int x' → y_KL tb K (y_sg ρ) lg' (cw.set pp (adr, .inl (cA, len, .inl (upd f x.toNatClampNeg x')))) := by
    rcases y_bool h5 with ⟨z1, z2⟩ | ⟨z1, z2⟩
    · obtain ⟨rfl, rfl⟩ : kd = 0 ∧ i = pp := by
        cases kd with
        | zero => exact ⟨rfl, Option.some.inj t1⟩
        | succ _ => cases z1
      have hl := hk0 rfl
      obtain ⟨xv, hxv, iv⟩ := y_isI_ok hI gv
      rcases y_fa_ok z2 hax with ⟨w, p', a', cA', len', g, x', f1, f2, f3, f4, z3⟩ | z3
      · obtain ⟨hIw, z3⟩ := z_cond z3
        refine ⟨_, z3, fun x'' hx'' => ?_⟩
        obtain ⟨cwB, b1, b2⟩ := hKK
        obtain ⟨xw, hxw, iw⟩ := y_isI_ok hIw f4
        have e1 : i = p' := Option.some.inj f1
        subst e1
        rw [r1] at f2
        cases f2
        have e2 := y_gi_fun f3 ij'
        subst e2
        cases hxw
        rw [hxv] at hx''
        cases hx''
        exact ⟨cwB, b1, cw, adr, cA, len, f, x', xv, ⟨cw, adr, cA, len, f, x', b2, hl, r1, ij', x3, iw, y_same_refl _ _ _⟩, hl, r1, ij', x3, iv, y_same_refl _ _ _⟩
      · refine ⟨_, z3, fun x'' hx'' => ?_⟩
        obtain ⟨cwB, b1, b2⟩ := hKK
        rw [hxv] at hx''
        cases hx''
        exact ⟨cwB, b1, cw, adr, cA, len, f, x, xv, b2, hl, r1, ij', x3, iv, y_same_refl _ _ _⟩
    · exact ⟨_, z2, fun x'' _ => y_KL_same hKK (y_same_row r1 (fun z => y_wasP hwa (by rw [z1]; rfl) t1 hps0 z) (fun z => y_wat hwa t1 hk0 z))⟩
  refine ⟨pp, adr, cA, len, f, t0, x, ty, (h.1, h.2.1, (kd, i, j', v) :: ax', lg'), rfl, rfl, r1, r2, x1, x2, ⟨hv, (y_isI_ok hI gv).imp fun _ z => z.1⟩, h6, ?_⟩
  intro x' H1 locs1 hvv hP1 hD1 hS1
  subst hvv
  have hso : y_same tb.1.length tb.2.2.2.2.2 cw (cw.set pp (adr, .inl (cA, len, .inl (upd f x.toNatClampNeg x')))) := y_same_row r1 (fun z => y_was hwa t1 hps0 z) (fun z => y_wat hwa t1 hk0 z)
  have hax' := y_axr_row (v := v) (g' := upd f x.toNatClampNeg x') hax k2 t1 hk0 hps0 r1 ij' x3 (fun m hm => by simp [upd, hm])
  refine ⟨hK, hP1, hD1, hS1, by rw [z_fst_set r1]; exact had, y_WT_set hW r1 o1 ⟨rfl, ⟨t0, r2⟩, ?_⟩, hlg' x' rfl, y_same_trans hsame hso, he, hrl, y_fxr_row hfx r1, ?_, hnl, hps, hps0⟩
  · have r6 : ∃ g, ((.inl (upd f x.toNatClampNeg x') : (Nat → Int32) ⊕ (Nat → Int64) ⊕ (Nat → UInt32) ⊕ (Nat → UInt64) ⊕ (Nat → Option Nat))) = .inl g ∧ ∀ j, j < len → y_tv tb (cw.map Prod.fst) (y_tg ρ) ty (.int (g j)) := by
      refine ⟨_, rfl, fun j hj => ?_⟩
      by_cases hjx : j = x.toNatClampNeg
      · rw [hjx, show upd f x.toNatClampNeg x' x.toNatClampNeg = x' from if_pos rfl, ← had]
        exact hv
      · rw [show upd f x.toNatClampNeg x' j = f j from if_neg hjx]
        exact r5 j hj
    match q, hkind, r6 with
    | 0, _, r6 => exact r6
    | 1, _, r6 => exact r6
    | 2, _, r6 => exact r6
  · intro qq hqq
    rcases List.mem_cons.mp hqq with rfl | hqq
    · refine ⟨hk0, pp, adr, cA, len, upd f x.toNatClampNeg x', x, t1, List.getElem?_set_self (List.getElem?_eq_some_iff.mp r1).1, ij', x3, ?_⟩
      rw [show upd f x.toNatClampNeg x' x.toNatClampNeg = x' from if_pos rfl]
      exact gv
    · exact hax' qq hqq
end YJ

theorem y_nlt {x : Int32} (h : 2147483648 ≤ z_b x) : ¬ x < 0 := by
  intro q
  have q := (z_blt x 0).mp q
  have : z_b 0 = 2147483648 := by decide
  omega
theorem y_clamp {x : Int32} (h : 2147483648 ≤ z_b x) : x.toNatClampNeg + 2147483648 = z_b x := by
  have h1 := z_b_int x
  have h2 : (x.toNatClampNeg : Int) = x.toInt := by
    show ((x.toInt.toNat : Nat) : Int) = x.toInt
    omega
  omega
theorem y_int_tv {tb : yTb} {ad : List Nat} {tg : List yC} {ty ty2 : yT} {x : Int32} (h : y_sub (y_int ty) (y_int ty2) = true) (hv : y_tv tb ad tg ty (.int x)) : y_tv tb ad tg ty2 (.int x) := by
  match ty, hv with
  | .inl D, ⟨z, hz, hD⟩ =>
    have h1 := y_sub_ok h hD
    cases hz
    match ty2, h1 with
    | .inl E, h1 => exact ⟨x, rfl, h1⟩
    | .inr _, h1 => exact absurd h1 y_in_nil
  | .inr (.inl ks), ⟨k, _, a, _, h2⟩ => cases h2
  | .inr (.inr 0), ⟨_, h2⟩ => cases h2
  | .inr (.inr 1), h2 =>
    rcases h2 with h2 | ⟨_, _, _, _, _, h2⟩ <;> cases h2
  | .inr (.inr 2), ⟨_, _, _, _, _, h2⟩ => cases h2
  | .inr (.inr 3), ⟨_, _, _, _, _, h2⟩ => cases h2
theorem y_dle_ok {sg : List Int32} {env : yEnv} {v : yV} {a b : Nat} {x : Int32} (h : y_dle env v a b = true) (he : y_erel sg env) (hx : y_gi sg v x) : a ≤ z_b x ∧ z_b x ≤ b := by
  obtain ⟨D, d1, d2⟩ := y_dm_ok h he hx
  rcases y_in_cons.mp (y_sub_ok d2 d1) with q | q
  · exact q
  · exact absurd q y_in_nil
theorem y_flor {α : Type} {f : α → Bool} : ∀ {l : List α}, y_fl (fun q r => or (f q) r) false l = true → ∃ q ∈ l, f q = true
  | [], h => by cases h
  | q :: l, h => by
    have h : or (f q) (y_fl (fun q r => or (f q) r) false l) = true := h
    rcases Bool.or_eq_true_iff.mp h with h | h
    · exact ⟨q, List.mem_cons_self, h⟩
    · obtain ⟨q', h1, h2⟩ := y_flor h
      exact ⟨q', List.mem_cons_of_mem _ h1, h2⟩
theorem y_pce_ok {sg : List Int32} {env : yEnv} {rl : List yR} {p c : yV} {n : Nat} {x y : Int32} (h : y_pce rl env p c n = true) (he : y_erel sg env) (hr : y_rrel sg rl) (hx : y_gi sg p x) (hy : y_gi sg c y) : 2147483648 ≤ z_b x ∧ 2147483648 ≤ z_b y ∧ x.toNatClampNeg + y.toNatClampNeg ≤ n := by
  obtain ⟨h1, h2⟩ := z_and h
  obtain ⟨h1, h3⟩ := z_and h1
  have a1 := (y_dle_ok h1 he hx).1
  have a2 := (y_dle_ok h3 he hy).1
  have b1 := y_clamp a1
  have b2 := y_clamp a2
  refine ⟨a1, a2, ?_⟩
  rcases Bool.or_eq_true_iff.mp h2 with h | h
  · obtain ⟨D, d1, h⟩ := y_dm_ok h he hx
    have h := y_hull_ok h
    obtain ⟨E, e1, h⟩ := y_dm_ok h he hy
    have h := y_hull_ok h
    have h := z_le_of h
    have m1 := y_le_max d1
    have m2 := y_le_max e1
    omega
  · obtain ⟨q, hq, h⟩ := y_flor (f := fun q : yR => and (Nat.beq q.1 1) (and (y_eqv q.2.2.1 p) (and (y_eqv (y_sy q.2.2.2) c) (y_dle env q.2.1 2147483648 (n + 2147483648))))) h
    obtain ⟨c1, h⟩ := z_and h
    obtain ⟨c2, h⟩ := z_and h
    obtain ⟨c3, c4⟩ := z_and h
    obtain ⟨w, z, g1, g2, g3⟩ := hr q hq
    rw [Nat.eq_of_beq_eq_true c1] at g3
    rw [y_eqv_ok c2] at g2
    rw [← y_eqv_ok c3] at hy
    have e1 := y_gi_fun g2 hx
    have e2 := y_gi_fun (a := y_sy q.2.2.2) g3 hy
    have c4 := y_dle_ok c4 he g1
    subst e1
    have e3 : y = w - z := e2.symm
    have i1 := z_b_int w
    have i2 := z_b_int z
    have i3 := z_b_int y
    have e4 : y.toInt = w.toInt - z.toInt := by
      rw [e3]
      have q1 := y_b_lt z
      have q2 := y_b_lt w
      exact Jvm.Kit.i32_sub (by omega) (by omega)
    omega
theorem y_axr_all {tb : yTb} {ρ : yRo} {b : Nat → Nat} {cw : va_W} {kd i p a len : Nat} {cA : ClassId} {g g' : Nat → Int32} {ax ax' : List yA} (hf : y_axr tb ρ b cw ax) (hk : ∀ q ∈ ax', q ∈ ax ∧ ¬ ((1 ≤ kd ∧ 1 ≤ q.1) ∨ (kd = 0 ∧ q.1 = 0 ∧ q.2.1 = i ∧ y_ncd q.2.2.1 y_null = false))) (hat : y_at ρ kd i = some p) (h0 : kd = 0 → i < tb.1.length) (hps : ∀ i p, y_ps ρ i = some p → tb.1.length ≤ p) (hc : cw[p]? = some (a, .inl (cA, len, .inl g))) : y_axr tb ρ b (cw.set p (a, .inl (cA, len, .inl g'))) ax' := by
  intro q hq
  obtain ⟨hq1, hq2⟩ := hk q hq
  obtain ⟨g0, p1, a1, cA1, len1, f1, x1, g1, g2, g3, gx, g4⟩ := hf q hq1
  have hn : y_ncd q.2.2.1 y_null = false := by
    unfold y_ncd
    split
    · rename_i hh; cases hh
    · rfl
  by_cases hp : p = p1
  · subst hp
    exfalso
    apply hq2
    cases hkd : kd with
    | zero =>
      subst hkd
      have e1 : i = p := Option.some.inj hat
      cases hq1k : q.1 with
      | zero =>
        rw [hq1k] at g1
        have e2 : q.2.1 = p := Option.some.inj g1
        exact Or.inr ⟨rfl, rfl, by omega, hn⟩
      | succ j' =>
        rw [hq1k] at g1
        have := hps _ _ g1
        have := h0 rfl
        omega
    | succ j' =>
      subst hkd
      cases hq1k : q.1 with
      | zero =>
        have e3 := g0 hq1k
        rw [hq1k] at g1
        have e2 : q.2.1 = p := Option.some.inj g1
        have := hps _ _ hat
        omega
      | succ j'' => exact Or.inl ⟨by omega, by omega⟩
  · exact ⟨g0, p1, a1, cA1, len1, f1, x1, g1, by rw [List.getElem?_set_ne hp]; exact g2, g3, gx, g4⟩

theorem y_popn_ok (k : Nat) : ∀ {acc st : List yV} {f : List yV → List yV → Bool}, y_popn k acc st f = true → ∃ xs st', xs.length = k ∧ st = xs ++ st' ∧ f (xs.reverse ++ acc) st' = true := by
  induction k with
  | zero => intro acc st f h; exact ⟨[], st, rfl, rfl, h⟩
  | succ k ih =>
    intro acc st f h
    obtain ⟨a, t, rfl, h1⟩ := y_pop1_ok (show y_pop1 st (fun a t => y_popn k (a :: acc) t f) = true from h)
    obtain ⟨xs, t', h2, h3, h4⟩ := ih h1
    exact ⟨a :: xs, t', by simp [h2], by rw [h3]; rfl, by simpa using h4⟩
theorem y_SR_split {g : yV → Value → Prop} : ∀ {xs t : List yV} {vs : List Value}, y_SR g (xs ++ t) vs → ∃ cx c1, vs = cx ++ c1 ∧ y_SR g xs cx ∧ y_SR g t c1
  | [], t, vs, h => ⟨[], vs, rfl, trivial, h⟩
  | x :: xs, t, [], h => h.elim
  | x :: xs, t, v :: vs, h => by
    obtain ⟨cx, c1, h1, h2, h3⟩ := y_SR_split (xs := xs) h.2
    exact ⟨v :: cx, c1, by rw [h1]; rfl, ⟨h.1, h2⟩, h3⟩
theorem y_SR_app {g : yV → Value → Prop} : ∀ {xs t : List yV} {cx c1 : List Value}, y_SR g xs cx → y_SR g t c1 → y_SR g (xs ++ t) (cx ++ c1)
  | [], _, [], _, _, h => h
  | _ :: _, _, _ :: _, _, h1, h2 => ⟨h1.1, y_SR_app h1.2 h2⟩
  | [], _, _ :: _, _, h1, _ => h1.elim
  | _ :: _, _, [], _, h1, _ => h1.elim
theorem y_SR_rev {g : yV → Value → Prop} : ∀ {xs : List yV} {cx : List Value}, y_SR g xs cx → y_SR g xs.reverse cx.reverse
  | [], [], _ => trivial
  | x :: xs, v :: cx, h => by
    rw [List.reverse_cons, List.reverse_cons]
    exact y_SR_app (y_SR_rev h.2) ⟨h.1, trivial⟩
  | [], _ :: _, h => h.elim
  | _ :: _, [], h => h.elim
theorem y_goodIn {wt : zTB} {cm : yMR} (h : Jvm.Cond.code (y_y cm) (y_cc cm) (y_mL cm) (y_rt cm) ∈ z_G wt) : GoodIn (z_G wt) (y_ws wt cm) := by
  intro x hx
  rcases List.mem_cons.mp hx with rfl | hx
  · exact ⟨h, z_good h⟩
  · exact ⟨hx, z_good hx⟩
theorem y_goodV {wt : zTB} {cm : yMR} {own : String} {idx : Nat} (h : Jvm.Cond.code (y_y cm) (y_cc cm) (y_mL cm) (y_rt cm) ∈ z_G wt) (h1 : Jvm.Cond.methodLink own idx (y_y cm) ∈ z_G wt) (h2 : Jvm.Cond.instanceMethod (y_y cm) ∈ z_G wt) (h3 : Jvm.Cond.selects (y_y cm).cls (y_y cm) (y_y cm) ∈ z_G wt) (h4 : Jvm.Cond.initialized (y_y cm).cls ∈ z_G wt) : GoodIn (z_G wt) (wsV own idx (y_y cm).cls (y_y cm) (y_ws wt cm)) := by
  intro x hx
  rcases List.mem_append.mp hx with hx | hx
  · have hm : x ∈ z_G wt := by
      simp only [List.mem_cons, List.not_mem_nil, or_false] at hx
      rcases hx with rfl | rfl | rfl | rfl <;> assumption
    exact ⟨hm, z_good hm⟩
  · exact y_goodIn h x hx
theorem y_goodS {wt : zTB} {cm : yMR} {own : String} {idx : Nat} (h : Jvm.Cond.code (y_y cm) (y_cc cm) (y_mL cm) (y_rt cm) ∈ z_G wt) (h1 : Jvm.Cond.methodLink own idx (y_y cm) ∈ z_G wt) (h2 : Jvm.Cond.static (y_y cm) ∈ z_G wt) (h4 : Jvm.Cond.initialized (y_y cm).cls ∈ z_G wt) : GoodIn (z_G wt) (va_wsS own idx (y_y cm) (y_ws wt cm)) := by
  intro x hx
  rcases List.mem_append.mp hx with hx | hx
  · have hm : x ∈ z_G wt := by
      simp only [List.mem_cons, List.not_mem_nil, or_false] at hx
      rcases hx with rfl | rfl | rfl <;> assumption
    exact ⟨hm, z_good hm⟩
  · exact y_goodIn h x hx
theorem y_cls_ok {tb : yTb} {ρ : yRo} {kd i p ci : Nat} {dy : List yC} (h : y_cls tb kd i ci = true) (hat : y_at ρ kd i = some p) (hd : 1 ≤ kd → (y_tg ρ)[p]? = some (y_dsh tb (kd - 1))) (hW : y_tg ρ = tb.1 ++ dy) : ∃ ts, (y_tg ρ)[p]? = some (.inl (ci, ts)) := by
  obtain ⟨c, h1, h2⟩ := y_sh_ok h hat hd hW
  match c, h1, h2 with
  | .inl (cj, ts), h1, h2 =>
    have h2 := Nat.eq_of_beq_eq_true h2
    subst h2
    exact ⟨ts, h1⟩
  | .inr _, _, h2 => cases h2
