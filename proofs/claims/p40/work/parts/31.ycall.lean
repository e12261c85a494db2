-- calls
def y_RV (g : yV → Value → Prop) : Option yV → Option Value → Prop
  | none, none => True
  | some a, some v => g a v
  | _, _ => False
theorem y_SR_len {g : yV → Value → Prop} : ∀ {as : List yV} {vs : List Value}, y_SR g as vs → as.length = vs.length
  | [], [], _ => rfl
  | _ :: _, _ :: _, hs => by simp [y_SR_len hs.2]
  | [], _ :: _, hs => hs.elim
  | _ :: _, [], hs => hs.elim
section YE
variable {tb : yTb} {ρ : yRo} {b : Nat → Nat}
theorem y_en_ok : ∀ {as : List yV} {vs : List Value} (i : Nat), y_SR (y_g tb ρ b) as vs → y_LR (y_g tb ρ b) (y_env as i) (lv_args i vs) ∧ (lg_sl vs).length = y_slots as ∧ (vs.map fun v => v.category).sum = y_slots as
  | [], [], _, _ => ⟨trivial, rfl, rfl⟩
  | a :: as, v :: vs, i, hs => by
    have hc := y_cat2 hs.1
    cases hl : y_isL a with
    | true =>
      obtain ⟨x, rfl⟩ := y_isL_ok hl hs.1
      obtain ⟨h1, h2, h3⟩ := y_en_ok (i + 2) hs.2
      have e : y_env (a :: as) i = (i, a) :: y_env as (i + 2) := by
        show (i, a) :: y_env as (cond (y_isL a) (i + 2) (i + 1)) = _
        rw [hl]; rfl
      have e1 : y_slots (a :: as) = y_slots as + 2 := by
        show cond (y_isL a) (y_slots as + 2) (y_slots as + 1) = _
        rw [hl]; rfl
      rw [e, e1]
      refine ⟨⟨⟨rfl, hs.1⟩, h1⟩, ?_, ?_⟩
      · show (lg_sl (Value.long x :: vs)).length = _
        unfold lg_sl
        rw [List.flatMap_cons, List.length_append]
        show 2 + (lg_sl vs).length = _
        rw [h2]; omega
      · show 2 + (vs.map fun v => v.category).sum = _
        rw [h3]; omega
    | false =>
      have hc1 := y_cat1 hl hs.1
      obtain ⟨h1, h2, h3⟩ := y_en_ok (i + 1) hs.2
      have e : y_env (a :: as) i = (i, a) :: y_env as (i + 1) := by
        show (i, a) :: y_env as (cond (y_isL a) (i + 2) (i + 1)) = _
        rw [hl]; rfl
      have e1 : y_slots (a :: as) = y_slots as + 1 := by
        show cond (y_isL a) (y_slots as + 2) (y_slots as + 1) = _
        rw [hl]; rfl
      have e2 : lv_args i (v :: vs) = (i, v) :: lv_args (i + 1) vs := by
        show (i, v) :: lv_args (if v.category = 2 then i + 2 else i + 1) vs = _
        rw [if_neg (by omega)]
      rw [e, e1, e2]
      refine ⟨⟨⟨rfl, hs.1⟩, h1⟩, ?_, ?_⟩
      · unfold lg_sl
        rw [List.flatMap_cons, if_neg (by omega), List.length_append]
        show 1 + (lg_sl vs).length = _
        rw [h2]; omega
      · show v.category + (vs.map fun v => v.category).sum = _
        rw [h3, hc1]; omega
  | [], _ :: _, _, hs => hs.elim
  | _ :: _, [], _, hs => hs.elim
end YE
/-- what a method that is run through leaves -/
def y_XI (cls : List vw_C) (K : va_W → Prop) (tb : yTb) (b : Nat → Nat) (ρ : yRo) (cw : va_W) (k : yK) : va_W → List (ClassId × FieldType) → Option Value → Prop := fun cw' tys' rv =>
  ∃ (ρ' : yRo) (n' : Nat) (env' : yEnv) (h' : yHp) (r : Option yV), k n' env' h' r = true ∧ y_RV (y_g tb ρ' b) r rv ∧ y_rle ρ ρ' ∧ y_ad ρ' = cw'.map Prod.fst ∧ y_WT tb cls tys' (y_tg ρ') cw' ∧ y_KL tb K (y_sg ρ') h'.2.2.2 cw' ∧ y_same tb.1.length tb.2.2.2.2.2 cw cw' ∧ y_erel (y_sg ρ') env' ∧ y_rrel (y_sg ρ') h'.1 ∧ y_fxr tb ρ' b cw' h'.2.1 ∧ y_axr tb ρ' b cw' h'.2.2.1 ∧ (y_sg ρ').length = n' ∧ (∀ i, n' ≤ i → y_ps ρ' i = none) ∧ ∀ i p, y_ps ρ' i = some p → tb.1.length ≤ p
set_option maxHeartbeats 4000000 in
theorem y_met {wt : zTB} {nw : List Jvm.Cond} {cls : List vw_C} {hn : yHn} {tb : yTb} {l : Launch} {D : va_G} {K : va_W → Prop} {b : Nat → Nat} {F fu : Nat} (hS : y_Snd wt nw cls hn tb l D K b F fu)
    {cm : yMR} (hFm : (y_rm cm).frames ≤ F) (hM : y_okM wt cls cm) (hcode : ∀ x ∈ y_cd cm, y_okE wt nw cls tb cm x = true) {ρ : yRo} {cw : va_W} {tys : List (ClassId × FieldType)} {sz : Nat} {as : List yV} {av : List Value} {n : Nat} {env : yEnv} {h : yHp} {k : yK} (hsr : y_SR (y_g tb ρ b) as av) (hlen : y_slots as ≤ y_mL cm)
    (had : y_ad ρ = cw.map Prod.fst) (hW : y_WT tb cls tys (y_tg ρ) cw) (hK : y_KL tb K (y_sg ρ) h.2.2.2 cw) (he : y_erel (y_sg ρ) env) (hr : y_rrel (y_sg ρ) h.1) (hf : y_fxr tb ρ b cw h.2.1) (hx : y_axr tb ρ b cw h.2.2.1) (hsl : (y_sg ρ).length = n) (hps : ∀ i, n ≤ i → y_ps ρ i = none) (hps0 : ∀ i p, y_ps ρ i = some p → tb.1.length ≤ p)
    (hev : y_ev hn tb fu (fun _ _ _ _ _ _ => false) cm (y_cd cm) 0 (y_env as 0) [] n env h k = true) :
    Met l (y_y cm) (y_ws wt cm) (y_rm cm) (y_Pc nw b cls D cw tys sz av) (y_Q cls D (y_XI cls K tb b ρ cw k) cw sz) 0 0 (va_A cw sz) := by
  refine Met.ofW (cc := y_cc cm) (maxL := y_mL cm) (ret := y_rt cm) hM.2.2.1 rfl ?_
  intro p e s m args below meth c s₁ B hml hv
  obtain ⟨rfl, hsz, hP, hKK, hD0, hN⟩ := hv
  subst hsz
  have hD := hD0.self (sz := s.heap.size)
  have hts := atoms_spec (ws := y_ws wt cm) B.pre
  obtain ⟨hl1, hl2, _⟩ := y_en_ok (tb := tb) (ρ := ρ) (b := b) 0 hsr
  have hl := lv_entry av (n := y_mL cm) (by rw [hl2]; exact hlen)
  rw [lg_entry_eq]
  refine hS p e _ s m av.toArray below meth c (va_A cw s.heap.size) cw ρ 0 0 (fun _ _ _ _ _ _ => false) cm (MQ below (y_Q cls D (y_XI cls K tb b ρ cw k) cw s.heap.size) av.toArray s 0 0 (va_A cw s.heap.size))
    ⟨B.exec, B.bytes, hml, findClass_of_methodNamed B.named, fun x hx => hts x (List.mem_cons_of_mem _ hx), rfl, hN, fun q h => Or.inr h, hcode⟩ hFm (Nat.zero_le _) (Nat.zero_le _) k ?_ (fun ρ H locs cw tys ls cst pc lo st n env h _ _ _ q => by cases q)
    ρ s.heap [] cw tys _ [] (y_cd cm) 0 (y_env as 0) [] n env h (fun x q => ⟨x, q, rfl⟩) (y_rle_refl ρ) ⟨hKK, hP, hD, va_S.rf, had, hW, hK, y_same_refl _ _ _, he, hr, hf, hx, hsl, hps, hps0⟩ ⟨⟨_, hl, hl1⟩, trivial⟩ hev
  intro ρ1 H locs cw1 tys1 ls cst pc n1 env1 h1 r hle hSt hk hret
  obtain ⟨hK1, hP1, hD1, hS1, had1, hW1, hKK1, hsame1, he1, hr1, hf1, hx1, hsl1, hps1, hps01⟩ := hSt
  have fin : ∀ rv : Option Value, y_RV (y_g tb ρ1 b) r rv → y_XI cls K tb b ρ cw k cw1 tys1 rv := fun rv hrv => ⟨ρ1, n1, env1, h1, r, hk, hrv, hle, had1, hW1, hKK1, hsame1, he1, hr1, hf1, hx1, hsl1, hps1, hps01⟩
  have hlocks := B.notSynchronized
  rcases hret with ⟨rfl, rfl, h3, h4⟩ | ⟨a, x, ty, rfl, rfl, h3, h4, h5, h6⟩ | ⟨a, v, ty, rfl, rfl, h3, h4, h5, h6, h7⟩ | ⟨a, x, rfl, rfl, h3, h4, h5⟩
  · exact W.vret B.exec B.bytes (by rw [B.returns]; exact h3) (fun t ht hW => ⟨⟨cw1, tys1, none, rfl, by rw [ht]; exact hP1, va_K.moved hW.alike hK1, hD1, fin _ trivial⟩, hS1.F ht⟩) hS1.2.2 h4
  · exact W.zret B.exec B.bytes (by rw [B.returns]; exact h4) h5 (fun t ht hW => ⟨⟨cw1, tys1, some (.int x), rfl, by rw [ht]; exact hP1, va_K.moved hW.alike hK1, hD1, fin _ h3⟩, hS1.F ht⟩) hS1.2.2 h6
  · exact W.aret B.exec B.bytes (by rw [B.returns]; exact h5) h6 h4 (fun t ht hW => ⟨⟨cw1, tys1, some v, rfl, by rw [ht]; exact hP1, va_K.moved hW.alike hK1, hD1, fin _ h3⟩, hS1.F ht⟩) hS1.2.2 h7
  · exact W.lret B.exec B.bytes (by rw [B.returns]; exact h4) (fun t ht hW => ⟨⟨cw1, tys1, some (.long x), rfl, by rw [ht]; exact hP1, va_K.moved hW.alike hK1, hD1, fin _ h3⟩, hS1.F ht⟩) hS1.2.2 h5
