section YI
variable {wt : zTB} {nw : List Jvm.Cond} {cls : List vw_C} {hn : yHn} {tb : yTb} {l : Launch} {D : va_G} {K : va_W → Prop} {b : Nat → Nat} {fu : Nat}
variable {p : Program} {e : Env} {R : Room} {s : State} {m : MethodId} {args : Array Value} {below : List Frame} {meth : Method} {c : Code} {A : Nat → Prop} {cw0 : va_W} {ρ0 : yRo} {ce sl : Nat} {mr : yMR} {Q : State → Prop}
variable {ρ : yRo} {H : Heap} {locs : List Loc} {cw : va_W} {tys : List (ClassId × FieldType)} {ls : Array Slot} {cst : List Value} {pc n : Nat} {env : yEnv} {h : yHp}
/-- what a call needs of room -/
def y_Rm (R : Room) (ct : List Value) (cm : yMR) : Prop := (ct.map fun v => v.category).sum ≤ 8 ∧ ((y_rm cm).frames + 1 ≤ R.frames ∧ 8 + (y_mL cm + 11) + (y_rm cm).locals ≤ R.locals) ∧ (y_rm cm).cells = 0 ∧ (y_rm cm).slots = 0
theorem y_room_ok {cm : yMR} {as t : List yV} {ct : List Value} (h : y_room mr cm as t = true) (hR : R = y_rm mr) (hst : y_SR (y_g tb ρ b) t ct) : y_Rm R ct cm ∧ y_slots as ≤ y_mL cm ∧ (y_rm cm).cells = 0 ∧ (y_rm cm).slots = 0 := by
  obtain ⟨h1, h2⟩ := z_and h
  obtain ⟨h3, h4⟩ := z_and h1
  obtain ⟨h5, h6⟩ := z_and h3
  obtain ⟨h7, h8⟩ := z_and h4
  obtain ⟨h9, h10⟩ := z_and h2
  have hc := (y_en_ok (tb := tb) (ρ := ρ) (b := b) 0 hst).2.2
  exact ⟨⟨by rw [hc]; exact z_le_of h5, (by rw [hR]; exact ⟨z_le_of h7, z_le_of h8⟩), Nat.eq_of_beq_eq_true h9, Nat.eq_of_beq_eq_true h10⟩, z_le_of h6, Nat.eq_of_beq_eq_true h9, Nat.eq_of_beq_eq_true h10⟩
theorem y_inl_ok {F : Nat} (hS : y_Snd wt nw cls hn tb l D K b F fu) (hF : y_Fix wt nw b cls tb p R s m args meth c A mr) (hFm : (y_rm mr).frames ≤ F) (hSt : y_St cls D K tb b s A cw0 ρ H locs cw tys n env h) {cm : yMR} (hM : y_okM wt cls cm) (hcode : ∀ x ∈ y_cd cm, y_okE wt nw cls tb cm x = true) {as t : List yV} {av ct : List Value} {cont : List yV → Nat → yEnv → yHp → Bool}
    (hev : y_inl (y_ev hn tb fu) mr cm as t n env h cont = true) (hsr : y_SR (y_g tb ρ b) as av) (hst : y_SR (y_g tb ρ b) t ct)
    (hrun : ∀ X : va_W → List (ClassId × FieldType) → Option Value → Prop, y_Rm R ct cm → PreS s H (y_Pc nw b cls D cw tys H.size av) av → Met l (y_y cm) (y_ws wt cm) (y_rm cm) (y_Pc nw b cls D cw tys H.size av) (y_Q cls D X cw H.size) 0 0 (va_A cw H.size) → va_Run p l e R s m args below meth c H locs ce sl 0 0 (F0 m pc ls cst) ct (y_Q cls D X cw H.size av.toArray) (va_A cw H.size))
    (kk : ∀ (ρ' : yRo) (H1 : Heap) (locs1 : List Loc) (cw' : va_W) (tys' : List (ClassId × FieldType)) (t' : List yV) (ct' : List Value) (n' : Nat) (env' : yEnv) (h' : yHp), cont t' n' env' h' = true → y_rle ρ ρ' → y_St cls D K tb b s A cw0 ρ' H1 locs1 cw' tys' n' env' h' → y_SR (y_g tb ρ' b) t' ct' → W p l e R s m args below meth c H1 locs1 ce sl Q (F0 m (pc + 3) ls ct')) : W p l e R s m args below meth c H locs ce sl Q (F0 m pc ls cst) := by
  obtain ⟨h1, h2⟩ := z_cond hev
  have hR : R = y_rm mr := hF.2.2.2.2.2.1
  obtain ⟨r1, r2, r3, r4⟩ := y_room_ok (tb := tb) (ρ := ρ) (b := b) h1 hR hst
  obtain ⟨hK, hP, hD, hS0, had, hW, hKK, hsame, he, hr, hf, hx, hsl, hps, hps0⟩ := id hSt
  have hMet := y_met (sz := H.size) hS (by have := r1.2.1.1; rw [hR] at this; omega) hM hcode hsr r2 had hW hKK he hr hf hx hsl hps hps0 h2
  refine y_call_ok hF hSt (hrun _ r1 (y_PreS hF hSt av) hMet) ?_
  intro H1 locs1 cw' tys' rv q1 q2 q3 q4 q5
  obtain ⟨ρ', n', env', h', r, k1, k2, k3, k4, k5, k6, k7, k8, k9, k10, k11, k12, k13, k14⟩ := q5
  have hSt' : y_St cls D K tb b s A cw0 ρ' H1 locs1 cw' tys' n' env' h' := ⟨q1, q2, q3, q4, k4, k5, k6, y_same_trans hsame k7, k8, k9, k10, k11, k12, k13, k14⟩
  have hst' : y_SR (y_g tb ρ' b) t ct := y_SR_mono (fun _ _ => y_g_mono k3) hst
  match r, rv, k1, k2 with
  | none, none, k1, _ => exact kk ρ' H1 locs1 cw' tys' t ct n' env' h' k1 k3 hSt' hst'
  | some a, some v, k1, k2 => exact kk ρ' H1 locs1 cw' tys' (a :: t) (v :: ct) n' env' h' k1 k3 hSt' ⟨k2, hst'⟩
  | none, some _, _, k2 => exact k2.elim
  | some _, none, _, k2 => exact k2.elim
theorem y_wf_true {i f : Nat} (h : (i, f) ∈ tb.2.2.2.2.2.1) : y_wf tb 0 i f = true := by
  have : ∀ l : List (Nat × Nat), (i, f) ∈ l → y_fl (fun q r => or (and (Nat.beq q.1 i) (Nat.beq q.2 f)) r) false l = true := by
    intro l
    induction l with
    | nil => intro z; cases z
    | cons w l ih =>
      intro z
      show or (and (Nat.beq w.1 i) (Nat.beq w.2 f)) (y_fl (fun q r => or (and (Nat.beq q.1 i) (Nat.beq q.2 f)) r) false l) = true
      rcases List.mem_cons.mp z with z | z
      · subst z
        rw [Nat.beq_refl, Nat.beq_refl]
        rfl
      · rw [ih z, Bool.or_true]
  exact this _ h
theorem y_outs_ok {f : yOut → Bool} : ∀ {os : List yOut}, y_fl (fun o r => and (f o) r) true os = true → ∀ o ∈ os, f o = true
  | [], _, _, ho => by cases ho
  | o' :: os, h, o, ho => by
    obtain ⟨h1, h2⟩ := z_and (show and (f o') (y_fl (fun o r => and (f o) r) true os) = true from h)
    rcases List.mem_cons.mp ho with rfl | ho
    · exact h1
    · exact y_outs_ok h2 o ho
theorem y_lgn_ok {wr : yWr} (hw : y_wle tb wr = true) (h : y_lgn tb wr = true) : (∀ q ∈ wr.1, q ∈ (y_plw tb.2.2.2.2.2).1) ∧ ∀ q ∈ wr.2.1, q ∈ (y_plw tb.2.2.2.2.2).2.1 := by
  obtain ⟨h1, h2⟩ := z_and h
  obtain ⟨w1, w2, _⟩ := y_wle_ok hw
  refine ⟨fun q hq => List.mem_filter.mpr ⟨w1 q hq, decide_eq_true fun z => ?_⟩, fun q hq => List.mem_filter.mpr ⟨w2 q hq, decide_eq_true fun z => ?_⟩⟩
  · have := y_flall (f := fun q : Nat × Nat => !(y_lgf tb 0 q.1 q.2)) h1 q hq
    rw [show y_lgf tb 0 q.1 q.2 = true from y_wf_true z] at this
    cases this
  · have := y_flall (f := fun q : Nat => !(y_lgd tb 0 q)) h2 q hq
    rw [show y_lgd tb 0 q = true from y_mem_true z] at this
    cases this
theorem y_con_ok {F : Nat} {cn : yCN} (hKs : y_Kst tb K) (hC : (y_rm cn.1).frames < F → y_wle tb cn.2.2.2.2 = true → y_Con wt nw cls l D (fun cw => y_kc cn.2.2.2.2 = true → K cw) tb cn) (hF : y_Fix wt nw b cls tb p R s m args meth c A mr) (hFm : (y_rm mr).frames ≤ F) (hSt : y_St cls D K tb b s A cw0 ρ H locs cw tys n env h) {as t : List yV} {av ct : List Value} {cont : List yV → Nat → yEnv → yHp → Bool}
    (hev : y_con tb mr cn as t n env h cont = true) (hsr : y_SR (y_g tb ρ b) as av) (hst : y_SR (y_g tb ρ b) t ct)
    (hrun : ∀ X : va_W → List (ClassId × FieldType) → Option Value → Prop, y_Rm R ct cn.1 → PreS s H (y_Pc nw b cls D cw tys H.size av) av → Met l (y_y cn.1) (y_ws wt cn.1) (y_rm cn.1) (y_Pc nw b cls D cw tys H.size av) (y_Q cls D X cw H.size) 0 0 (va_A cw H.size) → va_Run p l e R s m args below meth c H locs ce sl 0 0 (F0 m pc ls cst) ct (y_Q cls D X cw H.size av.toArray) (va_A cw H.size))
    (kk : ∀ (ρ' : yRo) (H1 : Heap) (locs1 : List Loc) (cw' : va_W) (tys' : List (ClassId × FieldType)) (t' : List yV) (ct' : List Value) (n' : Nat) (env' : yEnv) (h' : yHp), cont t' n' env' h' = true → y_rle ρ ρ' → y_St cls D K tb b s A cw0 ρ' H1 locs1 cw' tys' n' env' h' → y_SR (y_g tb ρ' b) t' ct' → W p l e R s m args below meth c H1 locs1 ce sl Q (F0 m (pc + 3) ls ct')) : W p l e R s m args below meth c H locs ce sl Q (F0 m pc ls cst) := by
  obtain ⟨h1, h2⟩ := z_cond hev
  obtain ⟨h5, h6⟩ := z_and h1
  obtain ⟨h7, h8⟩ := z_and h6
  obtain ⟨h8, hlg⟩ := z_and h8
  have hR : R = y_rm mr := hF.2.2.2.2.2.1
  obtain ⟨r1, r2, r3, r4⟩ := y_room_ok (tb := tb) (ρ := ρ) (b := b) h5 hR hst
  obtain ⟨hK, hP, hD, hS0, had, hW, hKK, hsame, he, hr, hf, hx, hsl, hps, hps0⟩ := id hSt
  obtain ⟨l1, l2, _⟩ := y_en_ok (tb := tb) (ρ := ρ) (b := b) 0 hsr
  have hann := y_ent_ok (gs := []) h7 l1 ⟨rfl, fun i v q => by cases q⟩ hps0 he hr hf hx
  rw [had] at hann
  obtain ⟨gh, gs, hgs, hgh, h9⟩ := y_gho_ok l1 he hf hx h2
  have hMet := hC (by have := r1.2.1.1; rw [hR] at this; omega) h8 b cw tys (y_tg ρ) H.size av gs (by rw [l2]; exact r2) hann hgs hW (fun z => by
    rw [z] at hlg
    exact y_KL_nil hKs hlg hKK)
  obtain ⟨fx', f1, f2⟩ := y_sf_ok cn.2.2.2.2 h.2.1
  obtain ⟨ax', a1, a2⟩ := y_sa_ok cn.2.2.2.2 h.2.2.1
  have h9 := (f1 _).symm.trans h9
  have h10 := (a1 _).symm.trans h9
  refine y_call_ok hF hSt (hrun _ r1 (y_PreS hF hSt av) hMet) ?_
  intro H1 locs1 cw' tys' rv q1 q2 q3 q4 q5
  obtain ⟨tg', o, k1, k2, k3, kE, k4, k5, k6, k7⟩ := q5
  have h11 : y_post o.2.1 n env fx' (fun n env fx => y_outs gh t ax' o h.2.2.2 cont n env h.1 fx) = true := y_outs_ok (f := fun o => y_post o.2.1 n env fx' (fun n env fx => y_outs gh t ax' o h.2.2.2 cont n env h.1 fx)) h10 o k1
  -- the valuation over the call: the same signs, more cells
  obtain ⟨ρ1, e1⟩ : ∃ ρ1 : yRo, ρ1 = (y_sg ρ, y_ps ρ, cw'.map Prod.fst, tg') := ⟨_, rfl⟩
  have hle1 : y_rle ρ ρ1 := by
    subst e1
    exact ⟨fun _ _ q => q, fun _ _ q => q, by rw [had]; exact k5.1, k4⟩
  have hsg : y_sg ρ1 = y_sg ρ := by rw [e1]
  have hpsE : y_ps ρ1 = y_ps ρ := by rw [e1]
  have hadE : y_ad ρ1 = cw'.map Prod.fst := by rw [e1]
  have htgE : y_tg ρ1 = tg' := by rw [e1]
  have hfx1 : y_fxr tb ρ1 b cw' fx' := y_fxr_mono hle1 (y_fxr_same hf f2 hps0 k5)
  have hax1 : y_axr tb ρ1 b cw' ax' := y_axr_mono hle1 (y_axr_same hx a2 hps0 k5)
  obtain ⟨ρ2, n2, env2, fx2, g1, g2, g3, g4, g5, g6, g7, g8⟩ := y_post_ok (tb := tb) (b := b) (ρ := ρ1) h11 k3 (by rw [hsg]; exact hsl) (by rw [hpsE]; exact hps) (by rw [hpsE]; exact hps0) (by rw [hsg]; exact he) hfx1
  have hw := y_wle_ok h8
  have hsame' := y_same_trans hsame (y_same_le hw.1 hw.2.1 hw.2.2 k5)
  have hKL : y_KL tb K (y_sg ρ) h.2.2.2 cw' := by
    rcases y_bool hlg with ⟨z1, z2⟩ | ⟨z1, z2⟩
    · cases hlg0 : h.2.2.2 with
      | nil => exact y_KL_of (k7 z1)
      | cons _ _ => rw [hlg0] at z2; cases z2
    · exact y_KL_same hKK (y_same_le (y_lgn_ok h8 z2).1 (y_lgn_ok h8 z2).2 hw.2.2 k5)
  have hr2 : y_rrel (y_sg ρ2) h.1 := y_rrel_mono g1.1 (by rw [hsg]; exact hr)
  have hax2 : y_axr tb ρ2 b cw' ax' := y_axr_mono g1 hax1
  have hgh2 : ∀ (ρ3 : yRo), y_rle ρ2 ρ3 → y_GH (y_sg ρ3) gh gs := fun ρ3 l3 => y_GH_mono (y_rle_trans (y_rle_trans hle1 g1) l3).1 hgh
  have fin : ∀ (ρ3 : yRo) (n3 : Nat) (env3 : yEnv) (lo : yLo) (t' : List yV) (ct' : List Value), y_rle ρ2 ρ3 → y_ad ρ3 = y_ad ρ2 → y_tg ρ3 = y_tg ρ2 → (y_sg ρ3).length = n3 → ((∀ i, n3 ≤ i → y_ps ρ3 i = none) ∧ ∀ i p, y_ps ρ3 i = some p → tb.1.length ≤ p) → y_erel (y_sg ρ3) env3 → y_LR (y_g tb ρ3 b) lo (y_olv rv) → y_SR (y_g tb ρ3 b) t' ct' → y_opi lo fx2 o.2.2 gh n3 env3 h.1 ax' (fun n env rl ax => cont t' n env (rl, fx2, ax, h.2.2.2)) = true → W p l e R s m args below meth c H1 locs1 ce sl Q (F0 m (pc + 3) ls ct') := by
    intro ρ3 n3 env3 lo t' ct' l1 l2 l3 l4 l5 l6 l7 l8 l9
    obtain ⟨ρ4, n4, env4, rl4, ax4, m1, m2, m3, m4, m5, m6, m6', m7, m8⟩ := y_opi_ok (fun _ _ z => z) l9 kE l7 (hgh2 ρ3 l1) l4 l5.1 l5.2 l6 (y_rrel_mono l1.1 hr2) (y_fxr_mono l1 g7) (y_axr_mono l1 hax2)
    have l14 := y_rle_trans l1 m1
    exact kk ρ4 H1 locs1 cw' tys' t' ct' n4 env4 (rl4, fx2, ax4, h.2.2.2) m8 (y_rle_trans hle1 (y_rle_trans g1 l14)) ⟨q1, q2, q3, q4, by rw [m2, l2, g2, hadE], by rw [m3, l3, g3, htgE]; exact k6, y_KL_mono (y_rle_trans hle1 (y_rle_trans g1 l14)) hKL, hsame', m6, m6', y_fxr_mono l14 g7, m7, m4, m5.1, m5.2⟩ (y_SR_mono (fun _ _ => y_g_mono m1) l8)
  obtain ⟨ot, ops⟩ := o
  match ot, rv, k2, g8 with
  | none, none, _, g8 =>
    exact fin ρ2 n2 env2 [] t ct (y_rle_refl _) rfl rfl g4 g5 g6 trivial (y_SR_mono (fun _ _ => y_g_mono (y_rle_trans hle1 g1)) hst) g8
  | some ty, some v, k2, g8 =>
    have g8 : y_nv ty n2 env2 (fun v n env => y_opi [(100, v)] fx2 ops.2 gh n env h.1 ax' fun n env rl ax => cont (v :: t) n env (rl, fx2, ax, h.2.2.2)) = true := g8
    have k2' : y_tv tb (y_ad ρ2) (y_tg ρ2) ty v := by rw [g2, g3, hadE, htgE]; exact k2
    obtain ⟨ρ3, v3, n3, env3, l1, l2, l3, l4, l5, l6, l7, l8⟩ := y_nv_ok (b := b) g8 g4 g5.1 g5.2 g6 k2'
    exact fin ρ3 n3 env3 [(100, v3)] (v3 :: t) (v :: ct) l1 l2 l3 l4 l5 l6 ⟨⟨rfl, l7⟩, trivial⟩ ⟨l7, y_SR_mono (fun _ _ => y_g_mono (y_rle_trans hle1 (y_rle_trans g1 l1))) hst⟩ l8
  | none, some _, k2, _ => exact k2.elim
  | some _, none, k2, _ => exact k2.elim
end YI
