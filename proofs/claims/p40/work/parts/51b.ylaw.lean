-- the law: its cases by the machine, enter and station with pieces by hand
def lwLv (b : Nat → Nat) (aX aM : Nat) (x : Int32) : List (Nat × Value) := [(3, .int x), (2, .ref aM), (1, .ref aX), (0, .ref (b 2))]
/-- heap, cells, types between two calls of the law -/
def lwHS (D : va_G) (s : State) (A : Nat → Prop) (aX aM : Nat) (H : Heap) (locs : List Loc) (cw : va_W) (tys : List (ClassId × FieldType)) (tg : List yC) : Prop := va_K D zcls tys s ∧ va_P D zcls cw H ∧ va_D A cw ∧ va_S A s.heap H locs ∧ y_WT (ytbL ywLw) zcls tys tg cw ∧ K3 cw ∧ (cw.map Prod.fst)[0]? = some aX ∧ (cw.map Prod.fst)[114]? = some aM
/-- the two counters are one number -/
def lwZ0 (cw : va_W) : Prop := y_fld cw lwZc lwZf = y_fld cw 114 lwZm
def lwZ (cw : va_W) : Prop := lwZ0 cw ∧ lwR cw ∧ lwJ cw ∧ lwO cw
def lwHZ (D : va_G) (s : State) (A : Nat → Prop) (aX aM : Nat) (H : Heap) (locs : List Loc) (cw : va_W) (tys : List (ClassId × FieldType)) (tg : List yC) : Prop := lwHS D s A aX aM H locs cw tys tg ∧ lwZ cw
def lwIx (b : Nat → Nat) (x : Int32) : Prop := ¬ x < 0 ∧ x.toNatClampNeg + 5 < b 1 ∧ b 1 ≤ 3072
theorem lwIx_in {b : Nat → Nat} {x : Int32} (h : lwIx b x) : y_in [(2147483648, 2147486720)] (z_b x) := by
  obtain ⟨h1, h2, h3⟩ := h
  have e0 : (0 : Int) ≤ x.toInt := by
    have := Int32.not_lt.mp h1
    simpa using Int32.le_iff_toInt_le.mp this
  obtain ⟨c1, c2⟩ := i_cc e0
  exact y_in_iv (by omega) (by omega)
section LG
variable {l : Launch} {D : va_G} {b : Nat → Nat}
variable {p : Program} {e : Env} {s : State} {m : MethodId} {args : Array Value} {below : List Frame} {meth : Method} {c : Code} {A : Nat → Prop} {Q : State → Prop}
variable {aX aM : Nat} {x : Int32} {ce sl : Nat} {H : Heap} {locs : List Loc} {cw : va_W} {tys : List (ClassId × FieldType)} {tg : List yC} {ls : Array Slot}
theorem lwSnd (fu : Nat) : y_Snd ztb znw zcls y_hn0 (ytbL ywLw) l D K3 b 4000 fu := y_snd (yAllL ywLw) ySh_ok K3_stL lwC y_hn0_ok fu
theorem lwSnc (fu : Nat) : y_Snd ztb znw zcls y_hn0 (ytbL ywLc) l D K3 b 4000 fu := y_snd (yAllL ywLc) ySh_ok K3_stC lwCc y_hn0_ok fu
theorem lwSns (fu : Nat) : y_Snd ztb znw zcls y_hn0 (ytbL ywLs) l D lwR b 4000 fu := y_snd (yAllL ywLs) ySh_ok lwR_st lwCs y_hn0_ok fu
theorem lwSnz (fu : Nat) : y_Snd ztb znw zcls y_hn0 (ytbL ywLz) l D K3 b 4000 fu := y_snd (yAllL ywLz) ySh_ok K3_stZ lwCz y_hn0_ok fu
theorem lwLR {ρ : yRo} (hx : lwIx b x) (h0 : (y_sg ρ)[0]? = some x) (h1 : (y_ad ρ)[0]? = some aX) (h2 : (y_ad ρ)[114]? = some aM) : y_LR (y_g (ytbL ywLw) ρ b) lwL (lwLv b aX aM x) := ⟨⟨rfl, x, h0, rfl⟩, ⟨rfl, aM, h2, rfl⟩, ⟨rfl, aX, h1, rfl⟩, ⟨rfl, y_g_sc.mpr ⟨rfl, x, h0, hx⟩⟩, trivial⟩
theorem lwLR_of {ρ : yRo} {lv : List (Nat × Value)} (h : y_LR (y_g (ytbL ywLw) ρ b) lwL lv) (h0 : (y_sg ρ)[0]? = some x) (h1 : (y_ad ρ)[0]? = some aX) (h2 : (y_ad ρ)[114]? = some aM) : lv = lwLv b aX aM x := by
  match lv, h with
  | [(k3, v3), (k2, v2), (k1, v1), (k0, v0)], ⟨⟨e3, x', g3, e3'⟩, ⟨e2, a2, g2, e2'⟩, ⟨e1, a1, g1, e1'⟩, ⟨e0, g0⟩, _⟩ =>
    have g3 : (y_sg ρ)[0]? = some x' := g3
    have g2 : (y_ad ρ)[114]? = some a2 := g2
    have g1 : (y_ad ρ)[0]? = some a1 := g1
    rw [h0] at g3
    rw [h2] at g2
    rw [h1] at g1
    cases g3
    cases g2
    cases g1
    have e0' : v0 = .ref (b 2) := (y_g_sc.mp g0).1
    have e3 : 3 = k3 := e3
    have e2 : 2 = k2 := e2
    have e1 : 1 = k1 := e1
    have e0 : 0 = k0 := e0
    have e3' : v3 = .int x := e3'
    have e2' : v2 = .ref aM := e2'
    have e1' : v1 = .ref aX := e1'
    rw [← e3, ← e2, ← e1, ← e0, e3', e2', e1', e0']
    rfl
theorem lwSt {ρ : yRo} {env : yEnv} {n : Nat} {w : yWr} {fx : List yF} (hS : lwHS D s A aX aM H locs cw tys tg) (had : y_ad ρ = cw.map Prod.fst) (htg : y_tg ρ = tg) (he : y_erel (y_sg ρ) env) (hn : (y_sg ρ).length = n) (hps : ∀ i, y_ps ρ i = none) (hfx : y_fxr (ytbL w) ρ b cw fx) : y_St zcls D K3 (ytbL w) b s A cw ρ H locs cw tys n env ([], fx, [], []) := by
  obtain ⟨s1, s2, s3, s4, s5, s6, s7, s8⟩ := hS
  exact ⟨s1, s2, s3, s4, had, by rw [htg]; exact s5, y_KL_of s6, y_same_refl _ _ _, he, (by intro q hq; cases hq), hfx, (by intro q hq; cases hq), hn, fun i _ => hps i, fun i p q => by rw [hps i] at q; cases q⟩
/-- what a stop leaves -/
theorem lwHS_of {ρ : yRo} {n : Nat} {env : yEnv} {h : yHp} {cw0 : va_W} {w : yWr} (hst : y_Kst (ytbL w) K3) (hSt : y_St zcls D K3 (ytbL w) b s A cw0 ρ H locs cw tys n env h) (hem : y_eml h.2.2.2 = true) (h1 : (y_ad ρ)[0]? = some aX) (h2 : (y_ad ρ)[114]? = some aM) : lwHS D s A aX aM H locs cw tys (y_tg ρ) := by
  obtain ⟨hK1, hP1, hD1, hS1, had1, hW1, hKK1, _⟩ := hSt
  exact ⟨hK1, hP1, hD1, hS1, hW1, y_KL_nil hst hem hKK1, by rw [← had1]; exact h1, by rw [← had1]; exact h2⟩
theorem lw_lt : lwZc < 224 := by decide
theorem lwZ_same {cw' : va_W} {w : yWr} (hn1 : (lwZc, lwZf) ∉ w.1) (hn2 : (114, lwZm) ∉ w.1) (hn3 : lwOR w = true) (hn4 : lwOJ w = true) (hn5 : lwOO w = true) (hW : y_WT (ytbL ywLz) zcls tys tg cw) (hs : y_same ySh.length w cw cw') (h : lwZ cw) : lwZ cw' := by
  refine ⟨?_, lwR_same hn3 hs h.2.1, lwJ_same hn4 hW hs h.2.2.1, lwO_same hn5 hW hs h.2.2.2⟩
  have h := h.1
  obtain ⟨a, vs, x, g1, g2, _⟩ := y_fldOf (c := lwZc) (f := lwZf) (ts := ySts lwZc) (E := lwZD) hW rfl rfl
  obtain ⟨a', vs', x', k1, k2, _⟩ := y_fldOf (c := 114) (f := lwZm) (ts := ySts 114) (E := lwZD) hW rfl rfl
  obtain ⟨ws, g3, g4⟩ := hs.2.1 lwZc a _ vs g1
  obtain ⟨ws', k3, k4⟩ := hs.2.1 114 a' _ vs' k1
  have e1 := g4 lwZf (fun _ => hn1) (fun z => absurd z (by decide +kernel))
  have e2 := k4 lwZm (fun _ => hn2) (fun z => absurd z (by decide +kernel))
  unfold lwZ0 at h ⊢
  rw [y_fld_eq g1 g2, y_fld_eq k1 k2] at h
  rw [y_fld_eq g3 (e1.trans g2), y_fld_eq k3 (e2.trans k2)]
  exact h
theorem lwZ_fx {ρ : yRo} {k : Nat} {x : Int32} (hW : y_WT (ytbL ywLw) zcls tys tg cw) (h : lwZ cw) (hk : (y_sg ρ)[k]? = some (y_fld cw lwZc lwZf)) : y_fxr (ytbL ywLw) ρ b cw [(0, lwZc, lwZf, y_sy k), (0, 114, lwZm, y_sy k)] := by
  obtain ⟨a, vs, x, g1, g2, _⟩ := y_fldOf (c := lwZc) (f := lwZf) (ts := ySts lwZc) (E := lwZD) hW rfl rfl
  obtain ⟨a', vs', x', k1, k2, _⟩ := y_fldOf (c := 114) (f := lwZm) (ts := ySts 114) (E := lwZD) hW rfl rfl
  have e1 := y_fld_eq g1 g2
  have e2 := y_fld_eq k1 k2
  have e3 : x' = x := by
    have h := h.1
    unfold lwZ0 at h
    rw [e1, e2] at h
    exact h.symm
  rw [e1] at hk
  exact y_forall ⟨fun _ => (show lwZc < ySh.length from by decide +kernel), lwZc, a, _, vs, .int x, rfl, g1, g2, x, hk, rfl⟩ <| y_forall ⟨fun _ => (show 114 < ySh.length from by decide +kernel), 114, a', _, vs', .int x', rfl, k1, k2, x, hk, by rw [e3]⟩ y_fornil
theorem lwZ_in (hW : y_WT (ytbL ywLw) zcls tys tg cw) : y_in lwZD (z_b (y_fld cw lwZc lwZf)) := by
  obtain ⟨a, vs, x, g1, g2, g3⟩ := y_fldOf (c := lwZc) (f := lwZf) (ts := ySts lwZc) (E := lwZD) hW rfl rfl
  rw [y_fld_eq g1 g2]
  exact g3
theorem lwZq_ok {ρ : yRo} {env : yEnv} {fx : List yF} {w : yWr} (h : lwZq env fx = true) (he : y_erel (y_sg ρ) env) (hfx : y_fxr (ytbL w) ρ b cw fx) : lwZ0 cw := by
  rcases y_ff_ok h hfx with ⟨v, p1, a, ci, vs, w1, _, g1, g2, g3, g4, h⟩ | h
  · rcases y_ff_ok h hfx with ⟨v', p2, a', ci', vs', w2, _, k1, k2, k3, k4, h⟩ | h
    · obtain ⟨u, hu, hv⟩ := y_rs_int h
      obtain ⟨u', hu', hv'⟩ := y_rs_int hu
      obtain ⟨i1, i2⟩ := z_and hu'
      have e := y_eqv_ok i2
      obtain ⟨x, rfl, j1⟩ := y_isI_ok (hv i1) g4
      obtain ⟨x', rfl, j2⟩ := y_isI_ok (hv' (by rw [← e]; exact i1)) k4
      obtain ⟨t, q1, h⟩ := y_rs_ok h he j1
      obtain ⟨t', q2, h⟩ := y_rs_ok h he j2
      have e' := y_eqv_ok (z_and h).2
      subst e'
      have ee := y_gi_fun q1 q2
      have g1 : lwZc = p1 := Option.some.inj g1
      have k1 : 114 = p2 := Option.some.inj k1
      subst g1
      subst k1
      unfold lwZ0
      rw [y_fld_eq g2 g3, y_fld_eq k2 k3, ee]
    · cases h
  · cases h
theorem lwStop {ps : List Nat} {ρ0 : yRo} {cw0 : va_W} (h0 : (y_sg ρ0)[0]? = some x) (h1 : (y_ad ρ0)[0]? = some aX) (h2 : (y_ad ρ0)[114]? = some aM) (hW0 : y_WT (ytbL ywLz) zcls tys tg cw0) (hZ0 : lwZ cw0) (kk : ∀ pc' ∈ ps, ∀ (H : Heap) (locs : List Loc) (cw : va_W) (tys : List (ClassId × FieldType)) (tg : List yC) (ls : Array Slot), lwHZ D s A aX aM H locs cw tys tg → lv_has ls 4 (lwLv b aX aM x) → W p l e room_1 s m args below meth c H locs ce sl Q (F0 m pc' ls [])) : y_Stop zcls l D K3 (ytbL ywLz) b p e room_1 s m args below meth c A cw0 ρ0 ce sl yrLw Q (lwSp ps) := by
  intro ρ1 H1 locs1 cw1 tys1 ls1 cst1 pc1 lo1 st1 n1 env1 hh1 hle1 hSt hFr hsp
  obtain ⟨k1, k2⟩ := z_and hsp
  obtain ⟨k2, k3⟩ := z_and k2
  obtain ⟨k3, k4⟩ := z_and k3
  have k2 := lwLo_ok k2
  subst k2
  have hst : st1 = [] := by
    cases st1 with
    | nil => rfl
    | cons _ _ => cases k3
  subst hst
  obtain ⟨⟨lv, hlv, hLR⟩, hSR⟩ := hFr
  have hc := y_SR_nil hSR
  subst hc
  have a1 := hle1.2.2.1 0 aX h1
  have a2 := hle1.2.2.1 114 aM h2
  have := lwLR_of hLR (hle1.1 0 x h0) a1 a2
  subst this
  exact kk pc1 (y_mem_ok k1) H1 locs1 cw1 tys1 (y_tg ρ1) ls1 ⟨lwHS_of K3_stZ hSt k4 a1 a2, lwZ_same (by decide +kernel) (by decide +kernel) (by decide +kernel) (by decide +kernel) (by decide +kernel) hW0 hSt.2.2.2.2.2.2.2.1 hZ0⟩ hlv
theorem lwStoz {ps : List Nat} {ρ0 : yRo} {cw0 : va_W} (h0 : (y_sg ρ0)[0]? = some x) (h1 : (y_ad ρ0)[0]? = some aX) (h2 : (y_ad ρ0)[114]? = some aM) (hW0 : y_WT (ytbL ywLw) zcls tys tg cw0) (hZ0 : lwZ cw0) (kk : ∀ pc' ∈ ps, ∀ (H : Heap) (locs : List Loc) (cw : va_W) (tys : List (ClassId × FieldType)) (tg : List yC) (ls : Array Slot), lwHZ D s A aX aM H locs cw tys tg → lv_has ls 4 (lwLv b aX aM x) → W p l e room_1 s m args below meth c H locs ce sl Q (F0 m pc' ls [])) : y_Stop zcls l D K3 (ytbL ywLc) b p e room_1 s m args below meth c A cw0 ρ0 ce sl yrLw Q (lwSz ps) := by
  intro ρ1 H1 locs1 cw1 tys1 ls1 cst1 pc1 lo1 st1 n1 env1 hh1 hle1 hSt hFr hsp
  obtain ⟨hsp, hzq⟩ := z_and hsp
  obtain ⟨hzq, hei⟩ := z_and hzq
  obtain ⟨hei, hpo⟩ := z_and hei
  obtain ⟨k1, k2⟩ := z_and hsp
  obtain ⟨k2, k3⟩ := z_and k2
  obtain ⟨k3, k4⟩ := z_and k3
  have k2 := lwLo_ok k2
  subst k2
  have hst : st1 = [] := by
    cases st1 with
    | nil => rfl
    | cons _ _ => cases k3
  subst hst
  obtain ⟨⟨lv, hlv, hLR⟩, hSR⟩ := hFr
  have hc := y_SR_nil hSR
  subst hc
  have a1 := hle1.2.2.1 0 aX h1
  have a2 := hle1.2.2.1 114 aM h2
  have := lwLR_of hLR (hle1.1 0 x h0) a1 a2
  subst this
  obtain ⟨hK1, hP1, hD1, hS1, had1, hW1, hKK1, hsm, her, hrr, hfx, hax, _⟩ := id hSt
  have hI := y_entI_ok (lv := []) (show y_LR (y_g (ytbL ywLc) ρ1 b) [] [] from trivial) her hrr hfx hax hei (show y_GH (y_sg ρ1) [] [] from ⟨rfl, fun i v h => by simp at h⟩)
  exact kk pc1 (y_mem_ok k1) H1 locs1 cw1 tys1 (y_tg ρ1) ls1 ⟨lwHS_of K3_stC hSt k4 a1 a2, lwZq_ok hzq her hfx, lwR_clr hsm hZ0.2.1 hI, lwJ_same (w := ywLc) (by decide +kernel) hW0 hsm hZ0.2.2.1, lwO_clr (y_pre_ok hpo her hfx)⟩ hlv
theorem lwStos {ps : List Nat} {ρ0 : yRo} {cw0 : va_W} (h0 : (y_sg ρ0)[0]? = some x) (h1 : (y_ad ρ0)[0]? = some aX) (h2 : (y_ad ρ0)[114]? = some aM) (hK0 : K3 cw0) (hW0 : y_WT (ytbL ywLw) zcls tys tg cw0) (hJ0 : lwJ cw0 ∧ lwO cw0) (kk : ∀ pc' ∈ ps, ∀ (H : Heap) (locs : List Loc) (cw : va_W) (tys : List (ClassId × FieldType)) (tg : List yC) (ls : Array Slot), lwHZ D s A aX aM H locs cw tys tg → lv_has ls 4 (lwLv b aX aM x) → W p l e room_1 s m args below meth c H locs ce sl Q (F0 m pc' ls [])) : y_Stop zcls l D lwR (ytbL ywLs) b p e room_1 s m args below meth c A cw0 ρ0 ce sl yrLw Q (lwSs ps) := by
  intro ρ1 H1 locs1 cw1 tys1 ls1 cst1 pc1 lo1 st1 n1 env1 hh1 hle1 hSt hFr hsp
  obtain ⟨hsp, hzq⟩ := z_and hsp
  obtain ⟨hzq, hlq⟩ := z_and hzq
  obtain ⟨k1, k2⟩ := z_and hsp
  obtain ⟨k2, k3⟩ := z_and k2
  have k2 := lwLo_ok k2
  subst k2
  have hst : st1 = [] := by
    cases st1 with
    | nil => rfl
    | cons _ _ => cases k3
  subst hst
  obtain ⟨⟨lv, hlv, hLR⟩, hSR⟩ := hFr
  have hc := y_SR_nil hSR
  subst hc
  have a1 := hle1.2.2.1 0 aX h1
  have a2 := hle1.2.2.1 114 aM h2
  have := lwLR_of hLR (hle1.1 0 x h0) a1 a2
  subst this
  obtain ⟨hK1, hP1, hD1, hS1, had1, hW1, hKK1, hsm, her, hrr, hfx, _⟩ := hSt
  exact kk pc1 (y_mem_ok k1) H1 locs1 cw1 tys1 (y_tg ρ1) ls1 ⟨⟨hK1, hP1, hD1, hS1, hW1, K3_sameS hsm hK0, by rw [← had1]; exact a1, by rw [← had1]; exact a2⟩, lwZq_ok hzq her hfx, lwR_of her hlq hKK1, lwJ_same (w := ywLs) (by decide +kernel) hW0 hsm hJ0.1, lwO_same (w := ywLs) (by decide +kernel) hW0 hsm hJ0.2⟩ hlv
theorem lwSt4 {ρ : yRo} {env : yEnv} {n : Nat} {rl : List yR} {fx : List yF} {ax : List yA} (hS : lwHS D s A aX aM H locs cw tys tg) (hR : lwR cw) (had : y_ad ρ = cw.map Prod.fst) (htg : y_tg ρ = tg) (he : y_erel (y_sg ρ) env) (hn : (y_sg ρ).length = n) (hps : ∀ i, y_ps ρ i = none) (hrl : y_rrel (y_sg ρ) rl) (hfx : y_fxr (ytbL ywLs) ρ b cw fx) (hax : y_axr (ytbL ywLs) ρ b cw ax) : y_St zcls D lwR (ytbL ywLs) b s A cw ρ H locs cw tys n env (rl, fx, ax, []) := by
  obtain ⟨s1, s2, s3, s4, s5, s6, s7, s8⟩ := hS
  exact ⟨s1, s2, s3, s4, had, by rw [htg]; exact s5, y_KL_of hR, y_same_refl _ _ _, he, hrl, hfx, hax, hn, fun i _ => hps i, fun i p q => by rw [hps i] at q; cases q⟩
theorem lwGo {ps : List Nat} {rows : List yEnt} {pc : Nat} (hev : y_ev y_hn0 (ytbL ywLz) 5000 (lwSp ps) yrLw rows pc lwL [] 1 lwE ([], [], [], []) lwNo = true) (hrows : ∀ x ∈ rows, ∃ y ∈ y_cd yrLw, (x.1, x.2.1, x.2.2.1, x.2.2.2.1, x.2.2.2.2.1) = (y.1, y.2.1, y.2.2.1, y.2.2.2.1, y.2.2.2.2.1)) (hF : y_Fix ztb znw b zcls (ytbL ywLz) p room_1 s m args meth c A yrLw) (hce : ce ≤ room_1.cells) (hsl : sl ≤ room_1.slots) (hS : lwHZ D s A aX aM H locs cw tys tg) (hx : lwIx b x) (hls : lv_has ls 4 (lwLv b aX aM x))
    (kk : ∀ pc' ∈ ps, ∀ (H : Heap) (locs : List Loc) (cw : va_W) (tys : List (ClassId × FieldType)) (tg : List yC) (ls : Array Slot), lwHZ D s A aX aM H locs cw tys tg → lv_has ls 4 (lwLv b aX aM x) → W p l e room_1 s m args below meth c H locs ce sl Q (F0 m pc' ls [])) : W p l e room_1 s m args below meth c H locs ce sl Q (F0 m pc ls []) := by
  obtain ⟨hS, hZ⟩ := hS
  have h7 := hS.2.2.2.2.2.2.1
  have h8 := hS.2.2.2.2.2.2.2
  exact lwSnz 5000 p e room_1 s m args below meth c A cw ([x], fun _ => none, cw.map Prod.fst, tg) ce sl (lwSp ps) yrLw Q hF (by decide) hce hsl lwNo (fun ρ H locs cw tys ls cst pc n env h r _ _ hk _ => by cases hk) (lwStop rfl h7 h8 hS.2.2.2.2.1 hZ kk) ([x], fun _ => none, cw.map Prod.fst, tg) H locs cw tys ls [] rows pc lwL [] 1 lwE ([], [], [], []) hrows (y_rle_refl _) (lwSt hS rfl rfl (y_forall ⟨x, rfl, lwIx_in hx⟩ y_fornil) rfl (fun _ => rfl) (by intro q hq; cases hq)) ⟨⟨_, hls, lwLR hx rfl h7 h8⟩, trivial⟩ hev
theorem lwClear (hF : y_Fix ztb znw b zcls (ytbL ywLw) p room_1 s m args meth c A yrLw) (hce : ce ≤ room_1.cells) (hsl : sl ≤ room_1.slots) (hS : lwHZ D s A aX aM H locs cw tys tg) (hx : lwIx b x) (hls : lv_has ls 4 (lwLv b aX aM x))
    (kk : ∀ pc' ∈ [lwEnd], ∀ (H : Heap) (locs : List Loc) (cw : va_W) (tys : List (ClassId × FieldType)) (tg : List yC) (ls : Array Slot), lwHZ D s A aX aM H locs cw tys tg → lv_has ls 4 (lwLv b aX aM x) → W p l e room_1 s m args below meth c H locs ce sl Q (F0 m pc' ls [])) : W p l e room_1 s m args below meth c H locs ce sl Q (F0 m lwClr ls []) := by
  obtain ⟨hS, hZ⟩ := hS
  have h7 := hS.2.2.2.2.2.2.1
  have h8 := hS.2.2.2.2.2.2.2
  have he : y_erel [x, y_fld cw lwZc lwZf] ((1, lwZD) :: lwE) := y_erel_cons (x := y_fld cw lwZc lwZf) (y_erel_cons (x := x) (env := []) (fun q hq => by cases hq) rfl (lwIx_in hx)) rfl (lwZ_in hS.2.2.2.2.1)
  exact lwSnc 5000 p e room_1 s m args below meth c A cw ([x, y_fld cw lwZc lwZf], fun _ => none, cw.map Prod.fst, tg) ce sl (lwSz [lwEnd]) yrLw Q hF (by decide) hce hsl lwNo (fun ρ H locs cw tys ls cst pc n env h r _ _ hk _ => by cases hk) (lwStoz rfl h7 h8 hS.2.2.2.2.1 hZ kk) ([x, y_fld cw lwZc lwZf], fun _ => none, cw.map Prod.fst, tg) H locs cw tys ls [] _ lwClr lwL [] 2 ((1, lwZD) :: lwE) _ y_ufl_ok (y_rle_refl _) (lwSt hS rfl rfl he rfl (fun _ => rfl) (lwZ_fx (x := x) hS.2.2.2.2.1 hZ rfl)) ⟨⟨_, hls, lwLR hx rfl h7 h8⟩, trivial⟩ lw_clr
/-- a number of the script, by hand -/
theorem lwArg {g : Nat → Int32} (hF : y_Fix ztb znw b zcls (ytbL ywLw) p room_1 s m args meth c A yrLw) (hS0 : va_S A s.heap H locs) (hT : va_T .int (b 2) (b 1) (fun j => .int (g j)) A s s.heap) (hx : lwIx b x) (hls : lv_has ls 4 (lwLv b aX aM x)) {pc k : Nat} (hk : k ≤ 5) (hd : and (and (y_dcd code pc (.aload_n 0) 1) (y_dcd code (pc + 1) (.iload_n 3) 1)) (and (and (y_dcd code (pc + 2) (.iconst (k : Int)) 1) (y_dcd code (pc + 3) .iadd 1)) (y_dcd code (pc + 4) .iaload 1)) = true) {rest : List Value} (kk : W p l e room_1 s m args below meth c H locs ce sl Q (F0 m (pc + 5) ls (.int (g (x + Int32.ofInt (k : Int)).toNatClampNeg) :: rest))) : W p l e room_1 s m args below meth c H locs ce sl Q (F0 m pc ls rest) := by
  obtain ⟨hx', hb, _⟩ := hF
  obtain ⟨d1, d2⟩ := z_and hd
  obtain ⟨d3, d4⟩ := z_and d1
  obtain ⟨d5, d6⟩ := z_and d2
  obtain ⟨d7, d8⟩ := z_and d5
  refine lv_aload_n (k := 0) hx' hb (y_dcd_ok d3) rfl (lv_at hls 3 rfl) ?_
  refine lv_iload_n (k := 3) hx' hb (y_dcd_ok d4) rfl (lv_at hls 0 rfl) ?_
  refine lv_iconst hx' hb (y_dcd_ok d7) rfl ?_
  refine lv_iadd hx' hb (y_dcd_ok d8) ?_
  have e : Int32.ofInt (k : Int) = nI k := by
    rcases (by omega : k = 0 ∨ k = 1 ∨ k = 2 ∨ k = 3 ∨ k = 4 ∨ k = 5) with rfl | rfl | rfl | rfl | rfl | rfl <;> decide
  exact va_ti hx' hb hT hS0 (by rw [e]; exact y_six_in hx.1 hx.2.1 hx.2.2 hk) rfl (y_dcd_ok d6) kk
theorem lwEnter {g : Nat → Int32} (hF : y_Fix ztb znw b zcls (ytbL ywLw) p room_1 s m args meth c A yrLw) (hT : va_T .int (b 2) (b 1) (fun j => .int (g j)) A s s.heap) (hce : ce + 2 ≤ room_1.cells) (hsl : sl + 61 ≤ room_1.slots) (hS : lwHZ D s A aX aM H locs cw tys tg) (hx : lwIx b x) (hls : lv_has ls 4 (lwLv b aX aM x))
    (kk : ∀ (H : Heap) (locs : List Loc) (cw : va_W) (tys : List (ClassId × FieldType)) (tg : List yC), lwHZ D s A aX aM H locs cw tys tg → W p l e room_1 s m args below meth c H locs (ce + 2) (sl + 61) Q (F0 m lwEnB ls [])) : W p l e room_1 s m args below meth c H locs ce sl Q (F0 m lwEnS ls []) := by
  obtain ⟨⟨s1, s2, s3, s4, s5, s6, s7, s8⟩, hZ⟩ := hS
  obtain ⟨dy, hdy, hdy2⟩ := s5.2.1
  have hdy : tg = ySh ++ dy := hdy
  have htgS : ∀ (k : Nat) (t : yC), ySh[k]? = some t → tg[k]? = some t := fun k t h => by rw [hdy, List.getElem?_append_left (List.getElem?_eq_some_iff.mp h).1]; exact h
  refine lv_aload_n (k := 1) hF.1 hF.2.1 (y_dcd_ok (by decide +kernel)) rfl (lv_at hls 2 rfl) ?_
  refine lwArg (k := 1) hF s4 hT hx hls (by decide) (by decide +kernel) ?_
  refine lwArg (k := 2) hF s4 hT hx hls (by decide) (by decide +kernel) ?_
  refine lwArg (k := 3) hF s4 hT hx hls (by decide) (by decide +kernel) ?_
  refine lwArg (k := 4) hF s4 hT hx hls (by decide) (by decide +kernel) ?_
  refine lwArg (k := 5) hF s4 hT hx hls (by decide) (by decide +kernel) ?_
  generalize g (x + Int32.ofInt ((1 : Nat) : Int)).toNatClampNeg = g1
  generalize g (x + Int32.ofInt ((2 : Nat) : Int)).toNatClampNeg = g2
  generalize g (x + Int32.ofInt ((3 : Nat) : Int)).toNatClampNeg = g3
  generalize g (x + Int32.ofInt ((4 : Nat) : Int)).toNatClampNeg = g4
  generalize g (x + Int32.ofInt ((5 : Nat) : Int)).toNatClampNeg = g5
  have hann : y_Ann (ytbE ywEN).1.length (y_tv (ytbE ywEN) (cw.map Prod.fst) tg) [] (lv_args 0 [.ref aX, .int g1, .int g2, .int g3, .int g4, .int g5]) cw ycEN.2.1 := ⟨y_forall ⟨.ref aX, rfl, 0, List.mem_singleton.mpr rfl, aX, s7, rfl⟩ <| y_forall ⟨.int g1, rfl, g1, rfl, y_in_top _⟩ <| y_forall ⟨.int g2, rfl, g2, rfl, y_in_top _⟩ <| y_forall ⟨.int g3, rfl, g3, rfl, y_in_top _⟩ <| y_forall ⟨.int g4, rfl, g4, rfl, y_in_top _⟩ <| y_forall ⟨.int g5, rfl, g5, rfl, y_in_top _⟩ <| y_fornil, fun q hq => (by cases hq), trivial⟩
  refine y_callX (cn := ycEN) (j := 111) (q := lwEnS + 26) (As := [.int g1, .int g2, .int g3, .int g4, .int g5]) (rest := []) (tg := tg) hF s1 s2 s3 s4 s5 hls.1 yo_yrEN (z_w_ok (n := 5227) (by decide +kernel)) (by decide) (show _ = some 5 from by decide +kernel) (y_dcd_ok (by decide +kernel)) (o := 0) s7 (ts := ySts 0) (htgS 0 _ rfl) ⟨by decide, by decide⟩ (Nat.le_of_ble_eq_true rfl) ⟨hce, hsl⟩ (yEN b cw tys tg H.size [.ref aX, .int g1, .int g2, .int g3, .int g4, .int g5] [] (Nat.le_of_ble_eq_true rfl) hann trivial s5 trivial) (fun H1 locs1 cw1 tys1 rv k1 k2 k3 k4 k5 => ?_)
  obtain ⟨tg1, o, o1, o2, o3, o4, o5, o6, o7, _⟩ := k5
  have o1 := List.mem_singleton.mp o1
  subst o1
  obtain ⟨xr, rfl⟩ : ∃ x, rv = some (.int x) := by
    cases rv with
    | none => exact o2.elim
    | some v =>
      obtain ⟨x, h1, h2⟩ := o2
      exact ⟨x, by rw [h1]⟩
  refine lv_pop hF.1 hF.2.1 (y_dcd_ok (by decide +kernel)) rfl ?_
  exact kk H1 locs1 cw1 tys1 tg1 ⟨⟨k1, k2, k3, k4, o7, ⟨y_KV_same (y_outB_ok (by decide +kernel)) o6 s6.1, y_KV_same (y_outB_ok (by decide +kernel)) o6 s6.2.1, y_KV_same (y_outB_ok (by decide +kernel)) o6 s6.2.2⟩, o6.1 0 aX s7, o6.1 114 aM s8⟩, lwZ_same (w := ywEN) (by decide +kernel) (by decide +kernel) (by decide +kernel) (by decide +kernel) (by decide +kernel) s5 o6 hZ⟩
theorem lwM_option {g : Nat → Int32} (hF : y_Fix ztb znw b zcls (ytbL ywLw) p room_1 s m args meth c A yrLw) (hT : va_T .int (b 2) (b 1) (fun j => .int (g j)) A s s.heap) (hce : ce ≤ room_1.cells) (hsl : sl ≤ room_1.slots) (hS : lwHZ D s A aX aM H locs cw tys tg) (hx : lwIx b x) (hls : lv_has ls 4 (lwLv b aX aM x))
    (kk : ∀ pc' ∈ [lwEnd], ∀ (H : Heap) (locs : List Loc) (cw : va_W) (tys : List (ClassId × FieldType)) (tg : List yC) (ls : Array Slot), lwHZ D s A aX aM H locs cw tys tg → lv_has ls 4 (lwLv b aX aM x) → W p l e room_1 s m args below meth c H locs ce sl Q (F0 m pc' ls [])) : W p l e room_1 s m args below meth c H locs ce sl Q (F0 m 1414 ls []) := by
  obtain ⟨hS, hZ⟩ := hS
  have h4 := hS.2.2.2.1
  have h5 := hS.2.2.2.2.1
  have h7 := hS.2.2.2.2.2.2.1
  have h8 := hS.2.2.2.2.2.2.2
  refine lv_aload_n (k := 1) hF.1 hF.2.1 (y_dcd_ok (by decide +kernel)) rfl (lv_at hls 2 rfl) ?_
  refine lwArg (k := 1) hF h4 hT hx hls (by decide) (by decide +kernel) ?_
  refine lwArg (k := 2) hF h4 hT hx hls (by decide) (by decide +kernel) ?_
  obtain ⟨g1, e1⟩ : ∃ g1, g1 = g (x + Int32.ofInt ((1 : Nat) : Int)).toNatClampNeg := ⟨_, rfl⟩
  obtain ⟨g2, e2⟩ : ∃ g2, g2 = g (x + Int32.ofInt ((2 : Nat) : Int)).toNatClampNeg := ⟨_, rfl⟩
  rw [← e1, ← e2]
  have stop : ∀ (ρ0 : yRo), (y_sg ρ0)[0]? = some x → (y_sg ρ0)[1]? = some g1 → (y_sg ρ0)[2]? = some g2 → (y_ad ρ0)[0]? = some aX → (y_ad ρ0)[114]? = some aM → y_Stop zcls l D lwR (ytbL ywLs) b p e room_1 s m args below meth c A cw ρ0 ce sl yrLw Q lwS_option := by
    intro ρ0 z0 z1 z2 z5 z6
    intro ρ1 H1 locs1 cw1 tys1 ls1 cst1 pc1 lo1 st1 n1 env1 hh1 hle1 hSt hFr hsp
    obtain ⟨k1, k2⟩ := z_and hsp
    obtain ⟨k2, k3⟩ := z_and k2
    have k1 := Nat.eq_of_beq_eq_true k1
    subst k1
    have k2 := lwLo_ok k2
    subst k2
    obtain ⟨⟨lv, hlv, hLR⟩, hSR⟩ := hFr
    have a1 := hle1.2.2.1 0 aX z5
    have a2 := hle1.2.2.1 114 aM z6
    have b0 := hle1.1 0 x z0
    have b1 := hle1.1 1 g1 z1
    have b2 := hle1.1 2 g2 z2
    have hlvE := lwLR_of hLR b0 a1 a2
    subst hlvE
    have hS1 : va_S A s.heap H1 locs1 := hSt.2.2.2.1
    refine lv_aload_n (k := 2) hF.1 hF.2.1 (y_dcd_ok (by decide +kernel)) rfl (lv_at hlv 1 rfl) ?_
    refine lwArg (k := 1) hF hS1 hT hx hlv (by decide) (by decide +kernel) ?_
    refine lwArg (k := 2) hF hS1 hT hx hlv (by decide) (by decide +kernel) ?_
    rw [← e1, ← e2]
    exact lwSns 5000 p e room_1 s m args below meth c A cw ρ1 ce sl (lwSs [lwEnd]) yrLw Q hF (by decide) hce hsl lwNo (fun ρ H locs cw tys ls cst pc n env h r _ _ hk _ => by cases hk) (lwStos b0 a1 a2 hS.2.2.2.2.2.1 h5 hZ.2.2 kk) ρ1 H1 locs1 cw1 tys1 ls1 _ (y_from (y_cd yrLw) 1439) 1439 lwL (y_sy 2 :: y_sy 1 :: y_ob 0 114 :: st1) n1 env1 hh1 (fun x h => ⟨x, y_from_sub _ _ x h, rfl⟩) (y_rle_refl _) hSt ⟨⟨_, hlv, hLR⟩, ⟨g2, b2, rfl⟩, ⟨g1, b1, rfl⟩, ⟨aM, a2, rfl⟩, hSR⟩ k3
  have hrn := lwZ_in h5
  obtain ⟨mm, hmm, ⟨om1, om2⟩, hrw⟩ := hZ.2.2.2
  obtain ⟨ao, vo, on, u1, u2, u3⟩ := y_fldOf (c := 93) (f := 1) (ts := ySts 93) (E := lwOD) h5 rfl rfl
  obtain ⟨ap, vp, op, w1, w2, w3⟩ := y_fldOf (c := 114) (f := 121) (ts := ySts 114) (E := [(2147483648, 2147484048)]) h5 rfl rfl
  rw [y_fld_eq u1 u2] at om1
  rw [y_fld_eq w1 w2] at om2
  have eop : op = on := by rw [om1, om2]
  subst eop
  have hfxr : ∀ ρ : yRo, (y_sg ρ)[3]? = some (y_fld cw lwZc lwZf) → (y_sg ρ)[4]? = some op → y_fxr (ytbL ywLs) ρ b cw lwFO := fun ρ hk ho => by
    have q := lwZ_fx (b := b) (x := x) h5 hZ hk
    exact y_forall (q _ (List.mem_of_getElem? (i := 0) rfl)) <| y_forall (q _ (List.mem_of_getElem? (i := 1) rfl)) <| y_forall ⟨fun _ => (show 93 < ySh.length from by decide +kernel), 93, ao, _, vo, .int op, rfl, u1, u2, op, ho, rfl⟩ <| y_forall ⟨fun _ => (show 114 < ySh.length from by decide +kernel), 114, ap, _, vp, .int op, rfl, w1, w2, op, ho, rfl⟩ y_fornil
  obtain ⟨on, eon⟩ : ∃ on, on = op := ⟨_, rfl⟩
  rw [← eon] at hfxr u3 om1
  obtain ⟨rn, ern⟩ : ∃ rn, rn = y_fld cw lwZc lwZf := ⟨_, rfl⟩
  rw [← ern] at hrn hfxr
  have hxin := lwIx_in hx
  have bl := y_b_lt g1
  have i0 : on.toInt = mm := by rw [om1]; exact dni_int (by omega)
  by_cases hr : 2147483648 ≤ z_b g1 ∧ z_b g1 ≤ 2147483795
  · obtain ⟨hr1, hr2⟩ := hr
    have i1 := z_b_int g1
    have e0' : 0 ≤ g1.toInt := by omega
    obtain ⟨c1, c2⟩ := i_cc e0'
    have n1 : (nI 1).toInt = 1 := by decide
    have io := z_b_int on
    have eu : (on - nI 1).toInt = on.toInt - 1 := by
      rw [Jvm.Kit.i32_sub (by omega) (by omega), n1]
    have iu := z_b_int (on - nI 1)
    have ef : (on - g1).toInt = on.toInt - g1.toInt := Jvm.Kit.i32_sub (by omega) (by omega)
    have if_ := z_b_int (on - g1)
    have ee : (on - nI 1 - g1).toInt = on.toInt - 1 - g1.toInt := by
      rw [Jvm.Kit.i32_sub (by omega) (by omega), eu]
    have ie := z_b_int (on - nI 1 - g1)
    have eef : on - g1 - nI 1 = on - nI 1 - g1 := by
      rw [Int32.sub_eq_add_neg, Int32.sub_eq_add_neg, Int32.sub_eq_add_neg, Int32.sub_eq_add_neg, Int32.add_assoc, Int32.add_comm (-g1) (-nI 1), ← Int32.add_assoc]
    have hRO : ∀ sg : List Int32, y_rrel ([x, g1, g2, rn, on, on - nI 1, on - g1, on - nI 1 - g1] ++ sg) lwRO := fun sg => y_forall ⟨on, nI 1, rfl, rfl, rfl⟩ <| y_forall ⟨on, g1, rfl, rfl, rfl⟩ <| y_forall ⟨on - nI 1, g1, rfl, rfl, rfl⟩ <| y_forall ⟨on - g1, nI 1, rfl, rfl, congrArg some eef.symm⟩ y_fornil
    by_cases hko : g1.toNatClampNeg < mm
    · obtain ⟨b0, b1, b2, _⟩ := hrw g1.toNatClampNeg hko
      obtain ⟨e0, ee0⟩ : ∃ e0, e0 = y_row cw 94 g1.toNatClampNeg := ⟨_, rfl⟩
      obtain ⟨e1v, ee1⟩ : ∃ e1v, e1v = y_row cw 95 g1.toNatClampNeg := ⟨_, rfl⟩
      obtain ⟨e2v, ee2⟩ : ∃ e2v, e2v = y_row cw 96 g1.toNatClampNeg := ⟨_, rfl⟩
      have ax : ∀ (r k n : Nat) (ev : Int32) (t : yT), ySh[r]? = some (.inr (0, n, t)) → [x, g1, g2, rn, on, on - nI 1, on - g1, on - nI 1 - g1, e0, e1v, e2v][k]? = some ev → y_row cw r g1.toNatClampNeg = ev → ((0, r, y_sy 1, y_sy k).1 = 0 → r < (ytbL ywLs).1.length) ∧ ∃ p a cA len f xx, y_at ([x, g1, g2, rn, on, on - nI 1, on - g1, on - nI 1 - g1, e0, e1v, e2v], fun _ => none, cw.map Prod.fst, tg) 0 r = some p ∧ cw[p]? = some (a, .inl (cA, len, .inl f)) ∧ y_gi [x, g1, g2, rn, on, on - nI 1, on - g1, on - nI 1 - g1, e0, e1v, e2v] (y_sy 1) xx ∧ xx.toNatClampNeg + 2147483648 = z_b xx ∧ y_g (ytbL ywLs) ([x, g1, g2, rn, on, on - nI 1, on - g1, on - nI 1 - g1, e0, e1v, e2v], fun _ => none, cw.map Prod.fst, tg) b (y_sy k) (.int (f xx.toNatClampNeg)) := fun r k n ev t hr1 hk hv => ⟨fun _ => (List.getElem?_eq_some_iff.mp hr1).1, r, dad cw r, dcI cw r, n, y_row cw r, g1, rfl, (d_rowN h5 hr1).1, rfl, c1, ev, hk, by rw [hv]⟩
      have he : y_erel [x, g1, g2, rn, on, on - nI 1, on - g1, on - nI 1 - g1, e0, e1v, e2v] lwOEB := y_forall ⟨e2v, rfl, y_in_top _⟩ <| y_forall ⟨e1v, rfl, y_in_top _⟩ <| y_forall ⟨e0, rfl, y_in_top _⟩ <| y_forall ⟨on - nI 1 - g1, rfl, y_in_iv (by omega) (by omega)⟩ <| y_forall ⟨on - g1, rfl, y_in_iv (by omega) (by omega)⟩ <| y_forall ⟨on - nI 1, rfl, y_in_iv (by omega) (by omega)⟩ <| y_forall ⟨on, rfl, y_in_iv (by omega) (by omega)⟩ <| y_forall ⟨rn, rfl, hrn⟩ <| y_forall ⟨g2, rfl, y_in_top _⟩ <| y_forall ⟨g1, rfl, y_in_iv hr1 hr2⟩ <| y_forall ⟨x, rfl, hxin⟩ y_fornil
      have hXX : y_axr (ytbL ywLs) ([x, g1, g2, rn, on, on - nI 1, on - g1, on - nI 1 - g1, e0, e1v, e2v], fun _ => none, cw.map Prod.fst, tg) b cw lwXO := y_forall (ax 94 8 _ e0 _ rfl rfl ee0.symm) <| y_forall (ax 203 8 _ e0 _ rfl rfl (by rw [← b0]; exact ee0.symm)) <| y_forall (ax 95 9 _ e1v _ rfl rfl ee1.symm) <| y_forall (ax 204 9 _ e1v _ rfl rfl (by rw [← b1]; exact ee1.symm)) <| y_forall (ax 96 10 _ e2v _ rfl rfl ee2.symm) <| y_forall (ax 205 10 _ e2v _ rfl rfl (by rw [← b2]; exact ee2.symm)) y_fornil
      exact lwSns 5000 p e room_1 s m args below meth c A cw ([x, g1, g2, rn, on, on - nI 1, on - g1, on - nI 1 - g1, e0, e1v, e2v], fun _ => none, cw.map Prod.fst, tg) ce sl lwS_option yrLw Q hF (by decide) hce hsl lwNo (fun ρ H locs cw tys ls cst pc n env h r _ _ hk _ => by cases hk) (stop ([x, g1, g2, rn, on, on - nI 1, on - g1, on - nI 1 - g1, e0, e1v, e2v], fun _ => none, cw.map Prod.fst, tg) rfl rfl rfl h7 h8) ([x, g1, g2, rn, on, on - nI 1, on - g1, on - nI 1 - g1, e0, e1v, e2v], fun _ => none, cw.map Prod.fst, tg) H locs cw tys ls _ (y_from (y_cd yrLw) 1425) 1425 lwL [y_sy 2, y_sy 1, y_ob 0 0] 11 lwOEB (lwRO, lwFO, lwXO, []) (fun x h => ⟨x, y_from_sub _ _ x h, rfl⟩) (y_rle_refl _) (lwSt4 hS hZ.2.1 rfl rfl he rfl (fun _ => rfl) (hRO [e0, e1v, e2v]) (hfxr _ rfl rfl) hXX) ⟨⟨_, hls, lwLR hx rfl h7 h8⟩, ⟨g2, rfl, rfl⟩, ⟨g1, rfl, rfl⟩, ⟨aX, h7, rfl⟩, trivial⟩ lw_OB
    · have he : y_erel [x, g1, g2, rn, on, on - nI 1, on - g1, on - nI 1 - g1] lwOEC := y_forall ⟨on - nI 1 - g1, rfl, y_in_iv (by omega) (by omega)⟩ <| y_forall ⟨on - g1, rfl, y_in_iv (by omega) (by omega)⟩ <| y_forall ⟨on - nI 1, rfl, y_in_iv (by omega) (by omega)⟩ <| y_forall ⟨on, rfl, u3⟩ <| y_forall ⟨rn, rfl, hrn⟩ <| y_forall ⟨g2, rfl, y_in_top _⟩ <| y_forall ⟨g1, rfl, y_in_iv hr1 hr2⟩ <| y_forall ⟨x, rfl, hxin⟩ y_fornil
      exact lwSns 5000 p e room_1 s m args below meth c A cw ([x, g1, g2, rn, on, on - nI 1, on - g1, on - nI 1 - g1], fun _ => none, cw.map Prod.fst, tg) ce sl lwS_option yrLw Q hF (by decide) hce hsl lwNo (fun ρ H locs cw tys ls cst pc n env h r _ _ hk _ => by cases hk) (stop ([x, g1, g2, rn, on, on - nI 1, on - g1, on - nI 1 - g1], fun _ => none, cw.map Prod.fst, tg) rfl rfl rfl h7 h8) ([x, g1, g2, rn, on, on - nI 1, on - g1, on - nI 1 - g1], fun _ => none, cw.map Prod.fst, tg) H locs cw tys ls _ (y_from (y_cd yrLw) 1425) 1425 lwL [y_sy 2, y_sy 1, y_ob 0 0] 8 lwOEC (lwRO, lwFO, [], []) (fun x h => ⟨x, y_from_sub _ _ x h, rfl⟩) (y_rle_refl _) (lwSt4 hS hZ.2.1 rfl rfl he rfl (fun _ => rfl) (hRO []) (hfxr _ rfl rfl) (by intro q hq; cases hq)) ⟨⟨_, hls, lwLR hx rfl h7 h8⟩, ⟨g2, rfl, rfl⟩, ⟨g1, rfl, rfl⟩, ⟨aX, h7, rfl⟩, trivial⟩ lw_OC
  · have hrA : y_in [(0, 2147483647), (2147483796, 4294967295)] (z_b g1) := by
      rcases Nat.lt_or_ge (z_b g1) 2147483648 with z | z
      · exact y_in_cons.mpr (Or.inl ⟨Nat.zero_le _, by show z_b g1 ≤ 2147483647; omega⟩)
      · exact y_in_cons.mpr (Or.inr (y_in_iv (by omega) bl))
    have he : y_erel [x, g1, g2, rn, on] lwOEA := y_forall ⟨on, rfl, u3⟩ <| y_forall ⟨rn, rfl, hrn⟩ <| y_forall ⟨g2, rfl, y_in_top _⟩ <| y_forall ⟨g1, rfl, hrA⟩ <| y_forall ⟨x, rfl, hxin⟩ y_fornil
    exact lwSns 5000 p e room_1 s m args below meth c A cw ([x, g1, g2, rn, on], fun _ => none, cw.map Prod.fst, tg) ce sl lwS_option yrLw Q hF (by decide) hce hsl lwNo (fun ρ H locs cw tys ls cst pc n env h r _ _ hk _ => by cases hk) (stop ([x, g1, g2, rn, on], fun _ => none, cw.map Prod.fst, tg) rfl rfl rfl h7 h8) ([x, g1, g2, rn, on], fun _ => none, cw.map Prod.fst, tg) H locs cw tys ls _ (y_from (y_cd yrLw) 1425) 1425 lwL [y_sy 2, y_sy 1, y_ob 0 0] 5 lwOEA ([], lwFO, [], []) (fun x h => ⟨x, y_from_sub _ _ x h, rfl⟩) (y_rle_refl _) (lwSt4 hS hZ.2.1 rfl rfl he rfl (fun _ => rfl) (by intro q hq; cases hq) (hfxr _ rfl rfl) (by intro q hq; cases hq)) ⟨⟨_, hls, lwLR hx rfl h7 h8⟩, ⟨g2, rfl, rfl⟩, ⟨g1, rfl, rfl⟩, ⟨aX, h7, rfl⟩, trivial⟩ lw_OA
theorem lwM_station {g : Nat → Int32} (hF : y_Fix ztb znw b zcls (ytbL ywLw) p room_1 s m args meth c A yrLw) (hT : va_T .int (b 2) (b 1) (fun j => .int (g j)) A s s.heap) (hce : ce ≤ room_1.cells) (hsl : sl ≤ room_1.slots) (hS : lwHZ D s A aX aM H locs cw tys tg) (hx : lwIx b x) (hls : lv_has ls 4 (lwLv b aX aM x))
    (kk : ∀ pc' ∈ [lwEnd], ∀ (H : Heap) (locs : List Loc) (cw : va_W) (tys : List (ClassId × FieldType)) (tg : List yC) (ls : Array Slot), lwHZ D s A aX aM H locs cw tys tg → lv_has ls 4 (lwLv b aX aM x) → W p l e room_1 s m args below meth c H locs ce sl Q (F0 m pc' ls [])) : W p l e room_1 s m args below meth c H locs ce sl Q (F0 m 1252 ls []) := by
  obtain ⟨hS, hZ⟩ := hS
  have h4 := hS.2.2.2.1
  have h5 := hS.2.2.2.2.1
  have h7 := hS.2.2.2.2.2.2.1
  have h8 := hS.2.2.2.2.2.2.2
  refine lv_aload_n (k := 1) hF.1 hF.2.1 (y_dcd_ok (by decide +kernel)) rfl (lv_at hls 2 rfl) ?_
  refine lwArg (k := 1) hF h4 hT hx hls (by decide) (by decide +kernel) ?_
  refine lwArg (k := 2) hF h4 hT hx hls (by decide) (by decide +kernel) ?_
  refine lwArg (k := 3) hF h4 hT hx hls (by decide) (by decide +kernel) ?_
  obtain ⟨g1, e1⟩ : ∃ g1, g1 = g (x + Int32.ofInt ((1 : Nat) : Int)).toNatClampNeg := ⟨_, rfl⟩
  obtain ⟨g2, e2⟩ : ∃ g2, g2 = g (x + Int32.ofInt ((2 : Nat) : Int)).toNatClampNeg := ⟨_, rfl⟩
  obtain ⟨g3, e3⟩ : ∃ g3, g3 = g (x + Int32.ofInt ((3 : Nat) : Int)).toNatClampNeg := ⟨_, rfl⟩
  rw [← e1, ← e2, ← e3]
  have he : y_erel [x, g1, g2, g3, y_fld cw lwZc lwZf] ((4, lwZD) :: ([(3, y_top), (2, y_top), (1, y_top)] ++ lwE)) := y_erel_cons (x := y_fld cw lwZc lwZf) (y_erel_cons (x := g3) (y_erel_cons (x := g2) (y_erel_cons (x := g1) (y_erel_cons (x := x) (env := []) (fun q hq => by cases hq) rfl (lwIx_in hx)) rfl (y_in_top _)) rfl (y_in_top _)) rfl (y_in_top _)) rfl (lwZ_in h5)
  refine lwSns 5000 p e room_1 s m args below meth c A cw ([x, g1, g2, g3, y_fld cw lwZc lwZf], fun _ => none, cw.map Prod.fst, tg) ce sl lwS_station yrLw Q hF (by decide) hce hsl lwNo (fun ρ H locs cw tys ls cst pc n env h r _ _ hk _ => by cases hk) ?_ ([x, g1, g2, g3, y_fld cw lwZc lwZf], fun _ => none, cw.map Prod.fst, tg) H locs cw tys ls _ (y_from (y_cd yrLw) 1268) 1268 lwL [y_sy 3, y_sy 2, y_sy 1, y_ob 0 0] 5 ((4, lwZD) :: ([(3, y_top), (2, y_top), (1, y_top)] ++ lwE)) ([], [(0, lwZc, lwZf, y_sy 4), (0, 114, lwZm, y_sy 4)], [], []) (fun x h => ⟨x, y_from_sub _ _ x h, rfl⟩) (y_rle_refl _) (lwSt4 hS hZ.2.1 rfl rfl he rfl (fun _ => rfl) (by intro q hq; cases hq) (lwZ_fx (x := x) h5 hZ rfl) (by intro q hq; cases hq)) ⟨⟨_, hls, lwLR hx rfl h7 h8⟩, ⟨g3, rfl, rfl⟩, ⟨g2, rfl, rfl⟩, ⟨g1, rfl, rfl⟩, ⟨aX, h7, rfl⟩, trivial⟩ lw_S_station
  intro ρ1 H1 locs1 cw1 tys1 ls1 cst1 pc1 lo1 st1 n1 env1 hh1 hle1 hSt hFr hsp
  obtain ⟨k1, k2⟩ := z_and hsp
  obtain ⟨k2, k3⟩ := z_and k2
  have k1 := Nat.eq_of_beq_eq_true k1
  subst k1
  have k2 := lwLo_ok k2
  subst k2
  obtain ⟨⟨lv, hlv, hLR⟩, hSR⟩ := hFr
  have a1 := hle1.2.2.1 0 aX h7
  have a2 := hle1.2.2.1 114 aM h8
  have b0 := hle1.1 0 x rfl
  have b1 := hle1.1 1 g1 rfl
  have b2 := hle1.1 2 g2 rfl
  have b3 := hle1.1 3 g3 rfl
  have hlvE := lwLR_of hLR b0 a1 a2
  subst hlvE
  have hS1 : va_S A s.heap H1 locs1 := hSt.2.2.2.1
  refine lv_aload_n (k := 2) hF.1 hF.2.1 (y_dcd_ok (by decide +kernel)) rfl (lv_at hlv 1 rfl) ?_
  refine lwArg (k := 1) hF hS1 hT hx hlv (by decide) (by decide +kernel) ?_
  refine lwArg (k := 2) hF hS1 hT hx hlv (by decide) (by decide +kernel) ?_
  refine lwArg (k := 3) hF hS1 hT hx hlv (by decide) (by decide +kernel) ?_
  rw [← e1, ← e2, ← e3]
  exact lwSns 5000 p e room_1 s m args below meth c A cw ρ1 ce sl (lwSs [lwEnd]) yrLw Q hF (by decide) hce hsl lwNo (fun ρ H locs cw tys ls cst pc n env h r _ _ hk _ => by cases hk) (lwStos b0 a1 a2 hS.2.2.2.2.2.1 h5 hZ.2.2 kk) ρ1 H1 locs1 cw1 tys1 ls1 _ (y_from (y_cd yrLw) 1288) 1288 lwL (y_sy 3 :: y_sy 2 :: y_sy 1 :: y_ob 0 114 :: st1) n1 env1 hh1 (fun x h => ⟨x, y_from_sub _ _ x h, rfl⟩) (y_rle_refl _) hSt ⟨⟨_, hlv, hLR⟩, ⟨g3, b3, rfl⟩, ⟨g2, b2, rfl⟩, ⟨g1, b1, rfl⟩, ⟨aM, a2, rfl⟩, hSR⟩ k3
theorem lwM_run {g : Nat → Int32} (hF : y_Fix ztb znw b zcls (ytbL ywLw) p room_1 s m args meth c A yrLw) (hT : va_T .int (b 2) (b 1) (fun j => .int (g j)) A s s.heap) (hce : ce ≤ room_1.cells) (hsl : sl ≤ room_1.slots) (hS : lwHZ D s A aX aM H locs cw tys tg) (hx : lwIx b x) (hls : lv_has ls 4 (lwLv b aX aM x))
    (kk : ∀ pc' ∈ [lwEnd], ∀ (H : Heap) (locs : List Loc) (cw : va_W) (tys : List (ClassId × FieldType)) (tg : List yC) (ls : Array Slot), lwHZ D s A aX aM H locs cw tys tg → lv_has ls 4 (lwLv b aX aM x) → W p l e room_1 s m args below meth c H locs ce sl Q (F0 m pc' ls [])) : W p l e room_1 s m args below meth c H locs ce sl Q (F0 m 1295 ls []) := by
  obtain ⟨hS, hZ⟩ := hS
  have h4 := hS.2.2.2.1
  have h5 := hS.2.2.2.2.1
  have h7 := hS.2.2.2.2.2.2.1
  have h8 := hS.2.2.2.2.2.2.2
  refine lv_aload_n (k := 1) hF.1 hF.2.1 (y_dcd_ok (by decide +kernel)) rfl (lv_at hls 2 rfl) ?_
  refine lwArg (k := 1) hF h4 hT hx hls (by decide) (by decide +kernel) ?_
  obtain ⟨g1, e1⟩ : ∃ g1, g1 = g (x + Int32.ofInt ((1 : Nat) : Int)).toNatClampNeg := ⟨_, rfl⟩
  rw [← e1]
  have he : y_erel [x, g1, y_fld cw lwZc lwZf] ((2, lwZD) :: ([(1, y_top)] ++ lwE)) := y_erel_cons (x := y_fld cw lwZc lwZf) (y_erel_cons (x := g1) (y_erel_cons (x := x) (env := []) (fun q hq => by cases hq) rfl (lwIx_in hx)) rfl (y_in_top _)) rfl (lwZ_in h5)
  refine lwSns 5000 p e room_1 s m args below meth c A cw ([x, g1, y_fld cw lwZc lwZf], fun _ => none, cw.map Prod.fst, tg) ce sl lwS_run yrLw Q hF (by decide) hce hsl lwNo (fun ρ H locs cw tys ls cst pc n env h r _ _ hk _ => by cases hk) ?_ ([x, g1, y_fld cw lwZc lwZf], fun _ => none, cw.map Prod.fst, tg) H locs cw tys ls _ (y_from (y_cd yrLw) 1301) 1301 lwL [y_sy 1, y_ob 0 0] 3 ((2, lwZD) :: ([(1, y_top)] ++ lwE)) ([], [(0, lwZc, lwZf, y_sy 2), (0, 114, lwZm, y_sy 2)], [], []) (fun x h => ⟨x, y_from_sub _ _ x h, rfl⟩) (y_rle_refl _) (lwSt4 hS hZ.2.1 rfl rfl he rfl (fun _ => rfl) (by intro q hq; cases hq) (lwZ_fx (x := x) h5 hZ rfl) (by intro q hq; cases hq)) ⟨⟨_, hls, lwLR hx rfl h7 h8⟩, ⟨g1, rfl, rfl⟩, ⟨aX, h7, rfl⟩, trivial⟩ lw_S_run
  intro ρ1 H1 locs1 cw1 tys1 ls1 cst1 pc1 lo1 st1 n1 env1 hh1 hle1 hSt hFr hsp
  obtain ⟨k1, k2⟩ := z_and hsp
  obtain ⟨k2, k3⟩ := z_and k2
  have k1 := Nat.eq_of_beq_eq_true k1
  subst k1
  have k2 := lwLo_ok k2
  subst k2
  obtain ⟨⟨lv, hlv, hLR⟩, hSR⟩ := hFr
  have a1 := hle1.2.2.1 0 aX h7
  have a2 := hle1.2.2.1 114 aM h8
  have b0 := hle1.1 0 x rfl
  have b1 := hle1.1 1 g1 rfl
  have hlvE := lwLR_of hLR b0 a1 a2
  subst hlvE
  have hS1 : va_S A s.heap H1 locs1 := hSt.2.2.2.1
  refine lv_aload_n (k := 2) hF.1 hF.2.1 (y_dcd_ok (by decide +kernel)) rfl (lv_at hlv 1 rfl) ?_
  refine lwArg (k := 1) hF hS1 hT hx hlv (by decide) (by decide +kernel) ?_
  rw [← e1]
  exact lwSns 5000 p e room_1 s m args below meth c A cw ρ1 ce sl (lwSs [lwEnd]) yrLw Q hF (by decide) hce hsl lwNo (fun ρ H locs cw tys ls cst pc n env h r _ _ hk _ => by cases hk) (lwStos b0 a1 a2 hS.2.2.2.2.2.1 h5 hZ.2.2 kk) ρ1 H1 locs1 cw1 tys1 ls1 _ (y_from (y_cd yrLw) 1311) 1311 lwL (y_sy 1 :: y_ob 0 114 :: st1) n1 env1 hh1 (fun x h => ⟨x, y_from_sub _ _ x h, rfl⟩) (y_rle_refl _) hSt ⟨⟨_, hlv, hLR⟩, ⟨g1, b1, rfl⟩, ⟨aM, a2, rfl⟩, hSR⟩ k3
theorem lwM_stopAt {g : Nat → Int32} (hF : y_Fix ztb znw b zcls (ytbL ywLw) p room_1 s m args meth c A yrLw) (hT : va_T .int (b 2) (b 1) (fun j => .int (g j)) A s s.heap) (hce : ce ≤ room_1.cells) (hsl : sl ≤ room_1.slots) (hS : lwHZ D s A aX aM H locs cw tys tg) (hx : lwIx b x) (hls : lv_has ls 4 (lwLv b aX aM x))
    (kk : ∀ pc' ∈ [lwEnd], ∀ (H : Heap) (locs : List Loc) (cw : va_W) (tys : List (ClassId × FieldType)) (tg : List yC) (ls : Array Slot), lwHZ D s A aX aM H locs cw tys tg → lv_has ls 4 (lwLv b aX aM x) → W p l e room_1 s m args below meth c H locs ce sl Q (F0 m pc' ls [])) : W p l e room_1 s m args below meth c H locs ce sl Q (F0 m 1318 ls []) := by
  obtain ⟨hS, hZ⟩ := hS
  have h4 := hS.2.2.2.1
  have h5 := hS.2.2.2.2.1
  have h7 := hS.2.2.2.2.2.2.1
  have h8 := hS.2.2.2.2.2.2.2
  refine lv_aload_n (k := 1) hF.1 hF.2.1 (y_dcd_ok (by decide +kernel)) rfl (lv_at hls 2 rfl) ?_
  refine lwArg (k := 1) hF h4 hT hx hls (by decide) (by decide +kernel) ?_
  refine lwArg (k := 2) hF h4 hT hx hls (by decide) (by decide +kernel) ?_
  refine lwArg (k := 3) hF h4 hT hx hls (by decide) (by decide +kernel) ?_
  refine lwArg (k := 4) hF h4 hT hx hls (by decide) (by decide +kernel) ?_
  obtain ⟨g1, e1⟩ : ∃ g1, g1 = g (x + Int32.ofInt ((1 : Nat) : Int)).toNatClampNeg := ⟨_, rfl⟩
  obtain ⟨g2, e2⟩ : ∃ g2, g2 = g (x + Int32.ofInt ((2 : Nat) : Int)).toNatClampNeg := ⟨_, rfl⟩
  obtain ⟨g3, e3⟩ : ∃ g3, g3 = g (x + Int32.ofInt ((3 : Nat) : Int)).toNatClampNeg := ⟨_, rfl⟩
  obtain ⟨g4, e4⟩ : ∃ g4, g4 = g (x + Int32.ofInt ((4 : Nat) : Int)).toNatClampNeg := ⟨_, rfl⟩
  rw [← e1, ← e2, ← e3, ← e4]
  have stop : ∀ (ρ0 : yRo), (y_sg ρ0)[0]? = some x → (y_sg ρ0)[1]? = some g1 → (y_sg ρ0)[2]? = some g2 → (y_sg ρ0)[3]? = some g3 → (y_sg ρ0)[4]? = some g4 → (y_ad ρ0)[0]? = some aX → (y_ad ρ0)[114]? = some aM → y_Stop zcls l D lwR (ytbL ywLs) b p e room_1 s m args below meth c A cw ρ0 ce sl yrLw Q lwS_stopAt := by
    intro ρ0 z0 z1 z2 z3 z4 z5 z6
    intro ρ1 H1 locs1 cw1 tys1 ls1 cst1 pc1 lo1 st1 n1 env1 hh1 hle1 hSt hFr hsp
    obtain ⟨k1, k2⟩ := z_and hsp
    obtain ⟨k2, k3⟩ := z_and k2
    have k1 := Nat.eq_of_beq_eq_true k1
    subst k1
    have k2 := lwLo_ok k2
    subst k2
    obtain ⟨⟨lv, hlv, hLR⟩, hSR⟩ := hFr
    have a1 := hle1.2.2.1 0 aX z5
    have a2 := hle1.2.2.1 114 aM z6
    have b0 := hle1.1 0 x z0
    have b1 := hle1.1 1 g1 z1
    have b2 := hle1.1 2 g2 z2
    have b3 := hle1.1 3 g3 z3
    have b4 := hle1.1 4 g4 z4
    have hlvE := lwLR_of hLR b0 a1 a2
    subst hlvE
    have hS1 : va_S A s.heap H1 locs1 := hSt.2.2.2.1
    refine lv_aload_n (k := 2) hF.1 hF.2.1 (y_dcd_ok (by decide +kernel)) rfl (lv_at hlv 1 rfl) ?_
    refine lwArg (k := 1) hF hS1 hT hx hlv (by decide) (by decide +kernel) ?_
    refine lwArg (k := 2) hF hS1 hT hx hlv (by decide) (by decide +kernel) ?_
    refine lwArg (k := 3) hF hS1 hT hx hlv (by decide) (by decide +kernel) ?_
    refine lwArg (k := 4) hF hS1 hT hx hlv (by decide) (by decide +kernel) ?_
    rw [← e1, ← e2, ← e3, ← e4]
    exact lwSns 5000 p e room_1 s m args below meth c A cw ρ1 ce sl (lwSs [lwEnd]) yrLw Q hF (by decide) hce hsl lwNo (fun ρ H locs cw tys ls cst pc n env h r _ _ hk _ => by cases hk) (lwStos b0 a1 a2 hS.2.2.2.2.2.1 h5 hZ.2.2 kk) ρ1 H1 locs1 cw1 tys1 ls1 _ (y_from (y_cd yrLw) 1364) 1364 lwL (y_sy 4 :: y_sy 3 :: y_sy 2 :: y_sy 1 :: y_ob 0 114 :: st1) n1 env1 hh1 (fun x h => ⟨x, y_from_sub _ _ x h, rfl⟩) (y_rle_refl _) hSt ⟨⟨_, hlv, hLR⟩, ⟨g4, b4, rfl⟩, ⟨g3, b3, rfl⟩, ⟨g2, b2, rfl⟩, ⟨g1, b1, rfl⟩, ⟨aM, a2, rfl⟩, hSR⟩ k3
  have hrn := lwZ_in h5
  have hfxr : ∀ ρ : yRo, (y_sg ρ)[5]? = some (y_fld cw lwZc lwZf) → y_fxr (ytbL ywLs) ρ b cw lwFX := fun ρ hk => lwZ_fx (x := x) h5 hZ hk
  obtain ⟨rn, ern⟩ : ∃ rn, rn = y_fld cw lwZc lwZf := ⟨_, rfl⟩
  rw [← ern] at hrn hfxr
  have hxin := lwIx_in hx
  have bl := y_b_lt g1
  by_cases hr : 2147483648 ≤ z_b g1 ∧ z_b g1 ≤ 2147483659
  · obtain ⟨hr1, hr2⟩ := hr
    have i1 := z_b_int g1
    have e0 : 0 ≤ g1.toInt := by omega
    obtain ⟨c1, c2⟩ := i_cc e0
    have hix : g1.toNatClampNeg < 12 := by omega
    obtain ⟨a1, cA1, f1, w1, v1⟩ := y_rowOf (r := lwRS1) (len := 12) (E := [(2147483648, 2147483656)]) h5 rfl (by decide)
    obtain ⟨a2, cA2, f2, w2, v2⟩ := y_rowOf (r := lwRS2) (len := 12) (E := [(2147483648, 2147483656)]) h5 rfl (by decide)
    obtain ⟨a3, cA3, f3, w3, v3⟩ := y_rowOf (r := lwRD1) (len := 96) (E := y_top) h5 rfl (by decide)
    obtain ⟨a4, cA4, f4, w4, v4⟩ := y_rowOf (r := lwRD2) (len := 96) (E := y_top) h5 rfl (by decide)
    have hR2 : ∀ j, j < 12 → f1 j = f2 j := fun j hj => by
      have q : y_row cw lwRS1 j = y_row cw lwRS2 j := (hZ.2.1.2 (lwRS1, lwRS2, 12, [(2147483648, 2147483656)]) (List.mem_of_getElem? (i := 2) rfl) j hj).1
      rw [y_row_eq w1, y_row_eq w2] at q
      exact q
    have hR3 : ∀ j, j < 96 → f3 j = f4 j := fun j hj => by
      have q : y_row cw lwRD1 j = y_row cw lwRD2 j := (hZ.2.1.2 (lwRD1, lwRD2, 96, [(2147483648, 2147493648)]) (List.mem_of_getElem? (i := 5) rfl) j hj).1
      rw [y_row_eq w3, y_row_eq w4] at q
      exact q
    have hR4 : ∀ j, j < 96 → y_in lwDD (z_b (f3 j)) := fun j hj => by
      have q : y_in lwDD (z_b (y_row cw lwRD1 j)) := (hZ.2.1.2 (lwRD1, lwRD2, 96, [(2147483648, 2147493648)]) (List.mem_of_getElem? (i := 5) rfl) j hj).2
      rw [y_row_eq w3] at q
      exact q
    obtain ⟨sv, esv⟩ : ∃ sv, sv = f1 g1.toNatClampNeg := ⟨_, rfl⟩
    have hsv := i_1 (v1 _ hix)
    rw [← esv] at hsv
    have i2 := z_b_int sv
    have n8 : (nI 8).toInt = 8 := by decide
    have n1 : (nI 1).toInt = 1 := by decide
    have i3 := i_1 (show y_in [(2147483648, 2147483660)] (z_b rn) from hrn)
    have em : (g1 * nI 8).toInt = g1.toInt * 8 := by
      rw [Int32.toInt_mul, n8]
      exact Int.bmod_eq_of_le (by omega) (by omega)
    have im := z_b_int (g1 * nI 8)
    have eu : (rn - nI 1).toInt = rn.toInt - 1 := by
      rw [Jvm.Kit.i32_sub (by omega) (by omega), n1]
    have iu := z_b_int (rn - nI 1)
    have ef : (rn - g1).toInt = rn.toInt - g1.toInt := Jvm.Kit.i32_sub (by omega) (by omega)
    have if_ := z_b_int (rn - g1)
    have ee : (rn - nI 1 - g1).toInt = rn.toInt - 1 - g1.toInt := by
      rw [Jvm.Kit.i32_sub (by omega) (by omega), eu]
    have ie := z_b_int (rn - nI 1 - g1)
    have eef : rn - g1 - nI 1 = rn - nI 1 - g1 := by
      rw [Int32.sub_eq_add_neg, Int32.sub_eq_add_neg, Int32.sub_eq_add_neg, Int32.sub_eq_add_neg, Int32.add_assoc, Int32.add_comm (-g1) (-nI 1), ← Int32.add_assoc]
    have hd : y_in lwDn (z_b g4) ∨ y_in lwDp (z_b g4) := by
      rcases Nat.lt_or_ge (z_b g4) 2147483648 with z | z
      · exact Or.inl (y_in_iv (Nat.zero_le _) (by omega))
      · exact Or.inr (y_in_iv z (y_b_lt g4))
    have hEK : ∀ (d v : yD) (sg : List Int32), y_in d (z_b g4) → y_in v (z_b sv) → y_erel ([x, g1, g2, g3, g4, rn, sv, g1 * nI 8, rn - nI 1, rn - g1, rn - nI 1 - g1, g3 - g4] ++ sg) (lwEK d v) := fun d v sg k1 k2 => y_forall ⟨g3 - g4, rfl, y_in_top _⟩ <| y_forall ⟨rn - nI 1 - g1, rfl, y_in_iv (by omega) (by omega)⟩ <| y_forall ⟨rn - g1, rfl, y_in_iv (by omega) (by omega)⟩ <| y_forall ⟨rn - nI 1, rfl, y_in_iv (by omega) (by omega)⟩ <| y_forall ⟨g1 * nI 8, rfl, y_in_iv (by omega) (by omega)⟩ <| y_forall ⟨sv, rfl, k2⟩ <| y_forall ⟨rn, rfl, hrn⟩ <| y_forall ⟨g4, rfl, k1⟩ <| y_forall ⟨g3, rfl, y_in_top _⟩ <| y_forall ⟨g2, rfl, y_in_top _⟩ <| y_forall ⟨g1, rfl, y_in_iv hr1 hr2⟩ <| y_forall ⟨x, rfl, hxin⟩ y_fornil
    have hRK : ∀ (sg : List Int32), y_rrel ([x, g1, g2, g3, g4, rn, sv, g1 * nI 8, rn - nI 1, rn - g1, rn - nI 1 - g1, g3 - g4] ++ sg) lwRK := fun sg => y_forall ⟨g1, nI 8, rfl, rfl, rfl⟩ <| y_forall ⟨nI 8, g1, rfl, rfl, congrArg some (Int32.mul_comm g1 (nI 8))⟩ <| y_forall ⟨rn, nI 1, rfl, rfl, rfl⟩ <| y_forall ⟨rn, g1, rfl, rfl, rfl⟩ <| y_forall ⟨rn - nI 1, g1, rfl, rfl, rfl⟩ <| y_forall ⟨rn - g1, nI 1, rfl, rfl, congrArg some eef.symm⟩ <| y_forall ⟨g3, g4, rfl, rfl, rfl⟩ y_fornil
    have hXK : ∀ (sg : List Int32), y_axr (ytbL ywLs) ([x, g1, g2, g3, g4, rn, sv, g1 * nI 8, rn - nI 1, rn - g1, rn - nI 1 - g1, g3 - g4] ++ sg, fun _ => none, cw.map Prod.fst, tg) b cw lwXK := fun sg => y_forall ⟨fun _ => (show lwRS1 < ySh.length from by decide +kernel), lwRS1, a1, cA1, 12, f1, g1, rfl, w1, rfl, c1, sv, rfl, by rw [esv]⟩ <| y_forall ⟨fun _ => (show lwRS2 < ySh.length from by decide +kernel), lwRS2, a2, cA2, 12, f2, g1, rfl, w2, rfl, c1, sv, rfl, by rw [esv, hR2 _ hix]⟩ y_fornil
    by_cases h0 : z_b sv = 2147483648
    · have hv : y_in lwV0 (z_b sv) := y_in_iv (by omega) (by omega)
      rcases hd with hd | hd
      · exact lwSns 5000 p e room_1 s m args below meth c A cw ([x, g1, g2, g3, g4, rn, sv, g1 * nI 8, rn - nI 1, rn - g1, rn - nI 1 - g1, g3 - g4], fun _ => none, cw.map Prod.fst, tg) ce sl lwS_stopAt yrLw Q hF (by decide) hce hsl lwNo (fun ρ H locs cw tys ls cst pc n env h r _ _ hk _ => by cases hk) (stop ([x, g1, g2, g3, g4, rn, sv, g1 * nI 8, rn - nI 1, rn - g1, rn - nI 1 - g1, g3 - g4], fun _ => none, cw.map Prod.fst, tg) rfl rfl rfl rfl rfl h7 h8) ([x, g1, g2, g3, g4, rn, sv, g1 * nI 8, rn - nI 1, rn - g1, rn - nI 1 - g1, g3 - g4], fun _ => none, cw.map Prod.fst, tg) H locs cw tys ls _ (y_from (y_cd yrLw) 1339) 1339 lwL [y_sy 4, y_sy 3, y_sy 2, y_sy 1, y_ob 0 0] 12 (lwEK lwDn lwV0) (lwRK, lwFX, lwXK, []) (fun x h => ⟨x, y_from_sub _ _ x h, rfl⟩) (y_rle_refl _) (lwSt4 hS hZ.2.1 rfl rfl (hEK _ _ [] hd hv) rfl (fun _ => rfl) (hRK []) (hfxr _ rfl) (hXK [])) ⟨⟨_, hls, lwLR hx rfl h7 h8⟩, ⟨g4, rfl, rfl⟩, ⟨g3, rfl, rfl⟩, ⟨g2, rfl, rfl⟩, ⟨g1, rfl, rfl⟩, ⟨aX, h7, rfl⟩, trivial⟩ lw_SBn
      · exact lwSns 5000 p e room_1 s m args below meth c A cw ([x, g1, g2, g3, g4, rn, sv, g1 * nI 8, rn - nI 1, rn - g1, rn - nI 1 - g1, g3 - g4], fun _ => none, cw.map Prod.fst, tg) ce sl lwS_stopAt yrLw Q hF (by decide) hce hsl lwNo (fun ρ H locs cw tys ls cst pc n env h r _ _ hk _ => by cases hk) (stop ([x, g1, g2, g3, g4, rn, sv, g1 * nI 8, rn - nI 1, rn - g1, rn - nI 1 - g1, g3 - g4], fun _ => none, cw.map Prod.fst, tg) rfl rfl rfl rfl rfl h7 h8) ([x, g1, g2, g3, g4, rn, sv, g1 * nI 8, rn - nI 1, rn - g1, rn - nI 1 - g1, g3 - g4], fun _ => none, cw.map Prod.fst, tg) H locs cw tys ls _ (y_from (y_cd yrLw) 1339) 1339 lwL [y_sy 4, y_sy 3, y_sy 2, y_sy 1, y_ob 0 0] 12 (lwEK lwDp lwV0) (lwRK, lwFX, lwXK, []) (fun x h => ⟨x, y_from_sub _ _ x h, rfl⟩) (y_rle_refl _) (lwSt4 hS hZ.2.1 rfl rfl (hEK _ _ [] hd hv) rfl (fun _ => rfl) (hRK []) (hfxr _ rfl) (hXK [])) ⟨⟨_, hls, lwLR hx rfl h7 h8⟩, ⟨g4, rfl, rfl⟩, ⟨g3, rfl, rfl⟩, ⟨g2, rfl, rfl⟩, ⟨g1, rfl, rfl⟩, ⟨aX, h7, rfl⟩, trivial⟩ lw_SBp
    · obtain ⟨av, eav⟩ : ∃ av, av = g1 * nI 8 + sv := ⟨_, rfl⟩
      have ea : av.toInt = g1.toInt * 8 + sv.toInt := by
        rw [eav, Jvm.Kit.i32_add (by omega) (by omega), em]
      have ia := z_b_int av
      have ei : (av - nI 1).toInt = av.toInt - 1 := by
        rw [Jvm.Kit.i32_sub (by omega) (by omega), n1]
      have ii := z_b_int (av - nI 1)
      obtain ⟨d1, d2⟩ := i_cc (x := av - nI 1) (by omega)
      obtain ⟨dv, edv⟩ : ∃ dv, dv = f3 (av - nI 1).toNatClampNeg := ⟨_, rfl⟩
      have hav : (av - nI 1).toNatClampNeg < 96 := by omega
      have hdv := hR4 (av - nI 1).toNatClampNeg hav
      rw [← edv] at hdv
      have hEL : ∀ (d v : yD), y_in d (z_b g4) → y_in v (z_b sv) → y_erel [x, g1, g2, g3, g4, rn, sv, g1 * nI 8, rn - nI 1, rn - g1, rn - nI 1 - g1, g3 - g4, av, av - nI 1, dv, g3 - dv] (lwEL d v) := fun d v k1 k2 => y_forall ⟨g3 - dv, rfl, y_in_top _⟩ <| y_forall ⟨dv, rfl, hdv⟩ <| y_forall ⟨av - nI 1, rfl, y_in_iv (by omega) (by omega)⟩ <| y_forall ⟨av, rfl, y_in_iv (by omega) (by omega)⟩ (hEK d v [av, av - nI 1, dv, g3 - dv] k1 k2)
      have hRL : ∀ (q : yV), y_gi [x, g1, g2, g3, g4, rn, sv, g1 * nI 8, rn - nI 1, rn - g1, rn - nI 1 - g1, g3 - g4, av, av - nI 1, dv, g3 - dv] q sv → y_rrel [x, g1, g2, g3, g4, rn, sv, g1 * nI 8, rn - nI 1, rn - g1, rn - nI 1 - g1, g3 - g4, av, av - nI 1, dv, g3 - dv] (lwRL q) := fun q hq => List.forall_mem_append.mpr ⟨hRK [av, av - nI 1, dv, g3 - dv], y_forall ⟨g1 * nI 8, sv, rfl, hq, congrArg some eav⟩ <| y_forall ⟨av, nI 1, rfl, rfl, rfl⟩ <| y_forall ⟨g3, dv, rfl, rfl, rfl⟩ y_fornil⟩
      have hXL : y_axr (ytbL ywLs) ([x, g1, g2, g3, g4, rn, sv, g1 * nI 8, rn - nI 1, rn - g1, rn - nI 1 - g1, g3 - g4, av, av - nI 1, dv, g3 - dv], fun _ => none, cw.map Prod.fst, tg) b cw lwXL := List.forall_mem_append.mpr ⟨hXK [av, av - nI 1, dv, g3 - dv], y_forall ⟨fun _ => (show lwRD1 < ySh.length from by decide +kernel), lwRD1, a3, cA3, 96, f3, av - nI 1, rfl, w3, rfl, d1, dv, rfl, by rw [edv]⟩ <| y_forall ⟨fun _ => (show lwRD2 < ySh.length from by decide +kernel), lwRD2, a4, cA4, 96, f4, av - nI 1, rfl, w4, rfl, d1, dv, rfl, by rw [edv, hR3 _ hav]⟩ y_fornil⟩
      by_cases h8v : z_b sv = 2147483656
      · have hv : y_in lwV8 (z_b sv) := y_in_iv (by omega) (by omega)
        have e8 : sv = nI 8 := (z_beq sv (nI 8)).mpr (by rw [h8v]; decide)
        rcases hd with hd | hd
        · exact lwSns 5000 p e room_1 s m args below meth c A cw ([x, g1, g2, g3, g4, rn, sv, g1 * nI 8, rn - nI 1, rn - g1, rn - nI 1 - g1, g3 - g4, av, av - nI 1, dv, g3 - dv], fun _ => none, cw.map Prod.fst, tg) ce sl lwS_stopAt yrLw Q hF (by decide) hce hsl lwNo (fun ρ H locs cw tys ls cst pc n env h r _ _ hk _ => by cases hk) (stop ([x, g1, g2, g3, g4, rn, sv, g1 * nI 8, rn - nI 1, rn - g1, rn - nI 1 - g1, g3 - g4, av, av - nI 1, dv, g3 - dv], fun _ => none, cw.map Prod.fst, tg) rfl rfl rfl rfl rfl h7 h8) ([x, g1, g2, g3, g4, rn, sv, g1 * nI 8, rn - nI 1, rn - g1, rn - nI 1 - g1, g3 - g4, av, av - nI 1, dv, g3 - dv], fun _ => none, cw.map Prod.fst, tg) H locs cw tys ls _ (y_from (y_cd yrLw) 1339) 1339 lwL [y_sy 4, y_sy 3, y_sy 2, y_sy 1, y_ob 0 0] 16 (lwEL lwDn lwV8) (lwRL (.inl 8), lwFX, lwXL, []) (fun x h => ⟨x, y_from_sub _ _ x h, rfl⟩) (y_rle_refl _) (lwSt4 hS hZ.2.1 rfl rfl (hEL _ _ hd hv) rfl (fun _ => rfl) (hRL (.inl 8) e8) (hfxr _ rfl) hXL) ⟨⟨_, hls, lwLR hx rfl h7 h8⟩, ⟨g4, rfl, rfl⟩, ⟨g3, rfl, rfl⟩, ⟨g2, rfl, rfl⟩, ⟨g1, rfl, rfl⟩, ⟨aX, h7, rfl⟩, trivial⟩ lw_SDn
        · exact lwSns 5000 p e room_1 s m args below meth c A cw ([x, g1, g2, g3, g4, rn, sv, g1 * nI 8, rn - nI 1, rn - g1, rn - nI 1 - g1, g3 - g4, av, av - nI 1, dv, g3 - dv], fun _ => none, cw.map Prod.fst, tg) ce sl lwS_stopAt yrLw Q hF (by decide) hce hsl lwNo (fun ρ H locs cw tys ls cst pc n env h r _ _ hk _ => by cases hk) (stop ([x, g1, g2, g3, g4, rn, sv, g1 * nI 8, rn - nI 1, rn - g1, rn - nI 1 - g1, g3 - g4, av, av - nI 1, dv, g3 - dv], fun _ => none, cw.map Prod.fst, tg) rfl rfl rfl rfl rfl h7 h8) ([x, g1, g2, g3, g4, rn, sv, g1 * nI 8, rn - nI 1, rn - g1, rn - nI 1 - g1, g3 - g4, av, av - nI 1, dv, g3 - dv], fun _ => none, cw.map Prod.fst, tg) H locs cw tys ls _ (y_from (y_cd yrLw) 1339) 1339 lwL [y_sy 4, y_sy 3, y_sy 2, y_sy 1, y_ob 0 0] 16 (lwEL lwDp lwV8) (lwRL (.inl 8), lwFX, lwXL, []) (fun x h => ⟨x, y_from_sub _ _ x h, rfl⟩) (y_rle_refl _) (lwSt4 hS hZ.2.1 rfl rfl (hEL _ _ hd hv) rfl (fun _ => rfl) (hRL (.inl 8) e8) (hfxr _ rfl) hXL) ⟨⟨_, hls, lwLR hx rfl h7 h8⟩, ⟨g4, rfl, rfl⟩, ⟨g3, rfl, rfl⟩, ⟨g2, rfl, rfl⟩, ⟨g1, rfl, rfl⟩, ⟨aX, h7, rfl⟩, trivial⟩ lw_SDp
      · have hv : y_in lwV1 (z_b sv) := y_in_iv (by omega) (by omega)
        rcases hd with hd | hd
        · exact lwSns 5000 p e room_1 s m args below meth c A cw ([x, g1, g2, g3, g4, rn, sv, g1 * nI 8, rn - nI 1, rn - g1, rn - nI 1 - g1, g3 - g4, av, av - nI 1, dv, g3 - dv], fun _ => none, cw.map Prod.fst, tg) ce sl lwS_stopAt yrLw Q hF (by decide) hce hsl lwNo (fun ρ H locs cw tys ls cst pc n env h r _ _ hk _ => by cases hk) (stop ([x, g1, g2, g3, g4, rn, sv, g1 * nI 8, rn - nI 1, rn - g1, rn - nI 1 - g1, g3 - g4, av, av - nI 1, dv, g3 - dv], fun _ => none, cw.map Prod.fst, tg) rfl rfl rfl rfl rfl h7 h8) ([x, g1, g2, g3, g4, rn, sv, g1 * nI 8, rn - nI 1, rn - g1, rn - nI 1 - g1, g3 - g4, av, av - nI 1, dv, g3 - dv], fun _ => none, cw.map Prod.fst, tg) H locs cw tys ls _ (y_from (y_cd yrLw) 1339) 1339 lwL [y_sy 4, y_sy 3, y_sy 2, y_sy 1, y_ob 0 0] 16 (lwEL lwDn lwV1) (lwRL (y_sy 6), lwFX, lwXL, []) (fun x h => ⟨x, y_from_sub _ _ x h, rfl⟩) (y_rle_refl _) (lwSt4 hS hZ.2.1 rfl rfl (hEL _ _ hd hv) rfl (fun _ => rfl) (hRL (y_sy 6) rfl) (hfxr _ rfl) hXL) ⟨⟨_, hls, lwLR hx rfl h7 h8⟩, ⟨g4, rfl, rfl⟩, ⟨g3, rfl, rfl⟩, ⟨g2, rfl, rfl⟩, ⟨g1, rfl, rfl⟩, ⟨aX, h7, rfl⟩, trivial⟩ lw_SCn
        · exact lwSns 5000 p e room_1 s m args below meth c A cw ([x, g1, g2, g3, g4, rn, sv, g1 * nI 8, rn - nI 1, rn - g1, rn - nI 1 - g1, g3 - g4, av, av - nI 1, dv, g3 - dv], fun _ => none, cw.map Prod.fst, tg) ce sl lwS_stopAt yrLw Q hF (by decide) hce hsl lwNo (fun ρ H locs cw tys ls cst pc n env h r _ _ hk _ => by cases hk) (stop ([x, g1, g2, g3, g4, rn, sv, g1 * nI 8, rn - nI 1, rn - g1, rn - nI 1 - g1, g3 - g4, av, av - nI 1, dv, g3 - dv], fun _ => none, cw.map Prod.fst, tg) rfl rfl rfl rfl rfl h7 h8) ([x, g1, g2, g3, g4, rn, sv, g1 * nI 8, rn - nI 1, rn - g1, rn - nI 1 - g1, g3 - g4, av, av - nI 1, dv, g3 - dv], fun _ => none, cw.map Prod.fst, tg) H locs cw tys ls _ (y_from (y_cd yrLw) 1339) 1339 lwL [y_sy 4, y_sy 3, y_sy 2, y_sy 1, y_ob 0 0] 16 (lwEL lwDp lwV1) (lwRL (y_sy 6), lwFX, lwXL, []) (fun x h => ⟨x, y_from_sub _ _ x h, rfl⟩) (y_rle_refl _) (lwSt4 hS hZ.2.1 rfl rfl (hEL _ _ hd hv) rfl (fun _ => rfl) (hRL (y_sy 6) rfl) (hfxr _ rfl) hXL) ⟨⟨_, hls, lwLR hx rfl h7 h8⟩, ⟨g4, rfl, rfl⟩, ⟨g3, rfl, rfl⟩, ⟨g2, rfl, rfl⟩, ⟨g1, rfl, rfl⟩, ⟨aX, h7, rfl⟩, trivial⟩ lw_SCp
  · have hrA : y_in [(0, 2147483647), (2147483660, 4294967295)] (z_b g1) := by
      rcases Nat.lt_or_ge (z_b g1) 2147483648 with z | z
      · exact y_in_cons.mpr (Or.inl ⟨Nat.zero_le _, by show z_b g1 ≤ 2147483647; omega⟩)
      · exact y_in_cons.mpr (Or.inr (y_in_iv (by omega) bl))
    have he : y_erel [x, g1, g2, g3, g4, rn] lwEA := y_forall ⟨rn, rfl, hrn⟩ <| y_forall ⟨g4, rfl, y_in_top _⟩ <| y_forall ⟨g3, rfl, y_in_top _⟩ <| y_forall ⟨g2, rfl, y_in_top _⟩ <| y_forall ⟨g1, rfl, hrA⟩ <| y_forall ⟨x, rfl, hxin⟩ y_fornil
    exact lwSns 5000 p e room_1 s m args below meth c A cw ([x, g1, g2, g3, g4, rn], fun _ => none, cw.map Prod.fst, tg) ce sl lwS_stopAt yrLw Q hF (by decide) hce hsl lwNo (fun ρ H locs cw tys ls cst pc n env h r _ _ hk _ => by cases hk) (stop ([x, g1, g2, g3, g4, rn], fun _ => none, cw.map Prod.fst, tg) rfl rfl rfl rfl rfl h7 h8) ([x, g1, g2, g3, g4, rn], fun _ => none, cw.map Prod.fst, tg) H locs cw tys ls _ (y_from (y_cd yrLw) 1339) 1339 lwL [y_sy 4, y_sy 3, y_sy 2, y_sy 1, y_ob 0 0] 6 lwEA ([], lwFX, [], []) (fun x h => ⟨x, y_from_sub _ _ x h, rfl⟩) (y_rle_refl _) (lwSt4 hS hZ.2.1 rfl rfl he rfl (fun _ => rfl) (by intro q hq; cases hq) (hfxr _ rfl) (by intro q hq; cases hq)) ⟨⟨_, hls, lwLR hx rfl h7 h8⟩, ⟨g4, rfl, rfl⟩, ⟨g3, rfl, rfl⟩, ⟨g2, rfl, rfl⟩, ⟨g1, rfl, rfl⟩, ⟨aX, h7, rfl⟩, trivial⟩ lw_SA
theorem lwZ0_same {cw' : va_W} {w : yWr} (hn1 : (lwZc, lwZf) ∉ w.1) (hn2 : (114, lwZm) ∉ w.1) (hW : y_WT (ytbL ywLz) zcls tys tg cw) (hs : y_same ySh.length w cw cw') (h : lwZ0 cw) : lwZ0 cw' ∧ y_fld cw' lwZc lwZf = y_fld cw lwZc lwZf := by
  obtain ⟨a, vs, x, g1, g2, _⟩ := y_fldOf (c := lwZc) (f := lwZf) (ts := ySts lwZc) (E := lwZD) hW rfl rfl
  obtain ⟨a', vs', x', k1, k2, _⟩ := y_fldOf (c := 114) (f := lwZm) (ts := ySts 114) (E := lwZD) hW rfl rfl
  obtain ⟨ws, g3, g4⟩ := hs.2.1 lwZc a _ vs g1
  obtain ⟨ws', k3, k4⟩ := hs.2.1 114 a' _ vs' k1
  have e1 := g4 lwZf (fun _ => hn1) (fun z => absurd z (by decide +kernel))
  have e2 := k4 lwZm (fun _ => hn2) (fun z => absurd z (by decide +kernel))
  unfold lwZ0 at h ⊢
  rw [y_fld_eq g1 g2, y_fld_eq k1 k2] at h
  rw [y_fld_eq g3 (e1.trans g2), y_fld_eq k3 (e2.trans k2), y_fld_eq g1 g2]
  exact ⟨h, rfl⟩
theorem lwJour {g : Nat → Int32} (hF : y_Fix ztb znw b zcls (ytbL ywLw) p room_1 s m args meth c A yrLw) (hT : va_T .int (b 2) (b 1) (fun j => .int (g j)) A s s.heap) (hce : ce ≤ room_1.cells) (hsl : sl ≤ room_1.slots) (hS : lwHZ D s A aX aM H locs cw tys tg) (hx : lwIx b x) (hls : lv_has ls 4 (lwLv b aX aM x))
    (kk : ∀ pc' ∈ [lwEnd], ∀ (H : Heap) (locs : List Loc) (cw : va_W) (tys : List (ClassId × FieldType)) (tg : List yC) (ls : Array Slot), lwHZ D s A aX aM H locs cw tys tg → lv_has ls 4 (lwLv b aX aM x) → W p l e room_1 s m args below meth c H locs ce sl Q (F0 m pc' ls [])) : W p l e room_1 s m args below meth c H locs ce sl Q (F0 m lwJoS ls []) := by
  obtain ⟨⟨s1, s2, s3, s4, s5, s6, s7, s8⟩, hZ⟩ := hS
  obtain ⟨r1, r2⟩ := id hZ.2.1
  obtain ⟨dy, hdy, hdy2⟩ := s5.2.1
  have hdy : tg = ySh ++ dy := hdy
  have htgS : ∀ (k : Nat) (t : yC), ySh[k]? = some t → tg[k]? = some t := fun k t h => by rw [hdy, List.getElem?_append_left (List.getElem?_eq_some_iff.mp h).1]; exact h
  refine lv_aload_n (k := 1) hF.1 hF.2.1 (y_dcd_ok (by decide +kernel)) rfl (lv_at hls 2 rfl) ?_
  refine lwArg (k := 1) hF s4 hT hx hls (by decide) (by decide +kernel) ?_
  refine lwArg (k := 2) hF s4 hT hx hls (by decide) (by decide +kernel) ?_
  refine lwArg (k := 3) hF s4 hT hx hls (by decide) (by decide +kernel) ?_
  obtain ⟨g1, e1⟩ : ∃ g1, g1 = g (x + Int32.ofInt ((1 : Nat) : Int)).toNatClampNeg := ⟨_, rfl⟩
  obtain ⟨g2, e2⟩ : ∃ g2, g2 = g (x + Int32.ofInt ((2 : Nat) : Int)).toNatClampNeg := ⟨_, rfl⟩
  obtain ⟨g3, e3⟩ : ∃ g3, g3 = g (x + Int32.ofInt ((3 : Nat) : Int)).toNatClampNeg := ⟨_, rfl⟩
  rw [← e1, ← e2, ← e3]
  -- the class
  have hb : jbd (y_row cw 83) (y_row cw 84) (y_row cw 85) (y_row cw 86) (y_row cw 80) (y_row cw 81) := ⟨fun r hr => (r2 (83, 197, 12, [(2147483648, 2147483656)]) (List.mem_of_getElem? (i := 2) rfl) r hr).2, fun r hr => (r2 (84, 198, 96, [(2147483648, 2147483655)]) (List.mem_of_getElem? (i := 3) rfl) r hr).2, fun r hr => (r2 (85, 199, 96, [(2147483648, 2147493648)]) (List.mem_of_getElem? (i := 4) rfl) r hr).2, fun r hr => (r2 (86, 200, 96, [(2147483648, 2147493648)]) (List.mem_of_getElem? (i := 5) rfl) r hr).2, fun r hr => (r2 (80, 194, 8, [(2147483648, 2147483708)]) (List.mem_of_getElem? (i := 0) rfl) r hr).2, fun r hr => (r2 (81, 195, 8, [(2147483648, 2147483657)]) (List.mem_of_getElem? (i := 1) rfl) r hr).2⟩
  obtain ⟨n, hn, en, hM1⟩ := lwJou1 (l := l) (D := D) (b := b) s5 hZ.2.2.1 hb s7 H.size g1 g2 g3
  obtain ⟨hV, hX⟩ := jXo_ok hn hb
  have hXn : (jXo n (y_row cw 83) (y_row cw 84) (y_row cw 85) (y_row cw 86) (y_row cw 80) (y_row cw 81)).n = n := rfl
  generalize jXo n (y_row cw 83) (y_row cw 84) (y_row cw 85) (y_row cw 86) (y_row cw 80) (y_row cw 81) = X at hM1 hV hX hXn
  refine y_callX (cn := yc145) (j := 168) (q := 1387) (As := [.int g1, .int g2, .int g3]) (rest := []) (tg := tg) hF s1 s2 s3 s4 s5 hls.1 yo_yr145 (z_w_ok (n := 7150) (by decide +kernel)) (by decide) (show _ = some 3 from by decide +kernel) (y_dcd_ok (by decide +kernel)) (o := 0) s7 (ts := ySts 0) (htgS 0 _ rfl) ⟨by decide, by decide⟩ (Nat.le_of_ble_eq_true rfl) ⟨hce, hsl⟩ hM1 (fun H1 locs1 cw1 tys1 rv k1 k2 k3 k4 k5 => ?_)
  obtain ⟨⟨tg1, o, o1, o2, o3, o4, o5, o6, o7, _⟩, hjj, hE1, v, hrv, hans⟩ := k5
  subst hrv
  have hK1 : K3 cw1 := ⟨y_KV_same (y_outB_ok (by decide +kernel)) o6 s6.1, y_KV_same (y_outB_ok (by decide +kernel)) o6 s6.2.1, y_KV_same (y_outB_ok (by decide +kernel)) o6 s6.2.2⟩
  have a1 := o6.1 0 aX s7
  have a2 := o6.1 114 aM s8
  obtain ⟨hz1, ez1⟩ := lwZ0_same (w := yw145) (by decide +kernel) (by decide +kernel) s5 o6 hZ.1
  have hR1 : lwR cw1 := lwR_same (w := yw145) (by decide +kernel) o6 hZ.2.1
  have kr : ∀ r ∈ lwR4, y_row cw1 r = y_row cw r := fun r hr => (lw_rowS o6 (lwOR_ok (w := yw145) (by decide +kernel) hr).1 (lwOR_ok (w := yw145) (by decide +kernel) hr).2 (r1 r hr)).2
  have al : ∀ q ∈ lwRP, ∀ j, j < q.2.2.1 → y_row cw1 q.2.1 j = y_row cw q.1 j := fun q hq j hj => by
    rw [kr _ (lwR4_2 hq)]
    exact (r2 q hq j hj).1.symm
  have hV1 : kVc X (y_row cw1) := jV_eq hV (fun r hr => (al (83, 197, 12, [(2147483648, 2147483656)]) (List.mem_of_getElem? (i := 2) rfl) r hr)) (fun r hr => ⟨(al (84, 198, 96, [(2147483648, 2147483655)]) (List.mem_of_getElem? (i := 3) rfl) r hr), (al (85, 199, 96, [(2147483648, 2147493648)]) (List.mem_of_getElem? (i := 4) rfl) r hr), (al (86, 200, 96, [(2147483648, 2147493648)]) (List.mem_of_getElem? (i := 5) rfl) r hr)⟩) (fun r hr => ⟨(al (80, 194, 8, [(2147483648, 2147483708)]) (List.mem_of_getElem? (i := 0) rfl) r hr), (al (81, 195, 8, [(2147483648, 2147483657)]) (List.mem_of_getElem? (i := 1) rfl) r hr)⟩)
  have hn1 : y_fld cw1 114 113 = nI X.n := by
    rw [show y_fld cw1 114 113 = y_fld cw1 lwZc lwZf from Eq.symm hz1, ez1, hXn]
    exact en
  -- the reference
  refine lv_pop hF.1 hF.2.1 (y_dcd_ok (by decide +kernel)) rfl ?_
  refine lv_aload_n (k := 2) hF.1 hF.2.1 (y_dcd_ok (by decide +kernel)) rfl (lv_at hls 1 rfl) ?_
  refine lwArg (k := 1) hF k4 hT hx hls (by decide) (by decide +kernel) ?_
  refine lwArg (k := 2) hF k4 hT hx hls (by decide) (by decide +kernel) ?_
  refine lwArg (k := 3) hF k4 hT hx hls (by decide) (by decide +kernel) ?_
  rw [← e1, ← e2, ← e3]
  have hM2 := lwJou2 (l := l) (D := D) (b := b) o7 hV1 hX hn1 a2 H1.size g1 g2 g3
  obtain ⟨dy1, hdy1, _⟩ := o7.2.1
  have hdy1 : tg1 = ySh ++ dy1 := hdy1
  have htgS1 : ∀ (k : Nat) (t : yC), ySh[k]? = some t → tg1[k]? = some t := fun k t h => by rw [hdy1, List.getElem?_append_left (List.getElem?_eq_some_iff.mp h).1]; exact h
  refine y_callX (cn := yc245) (j := 171) (q := 1407) (As := [.int g1, .int g2, .int g3]) (rest := []) (tg := tg1) hF k1 k2 k3 k4 o7 hls.1 yo_yr245 (z_w_ok (n := 12150) (by decide +kernel)) (by decide) (show _ = some 3 from by decide +kernel) (y_dcd_ok (by decide +kernel)) (o := 114) a2 (ts := ySts 114) (htgS1 114 _ rfl) ⟨by decide, by decide⟩ (Nat.le_of_ble_eq_true rfl) ⟨hce, hsl⟩ hM2 (fun H2 locs2 cw2 tys2 rv m1 m2 m3 m4 m5 => ?_)
  obtain ⟨⟨tg2, o', u1, u2, u3, u4, u5, u6, u7, _⟩, hE2, v', hrv, hans'⟩ := m5
  subst hrv
  have ev := jans_eq hX hans hans'
  subst ev
  have hK2 : K3 cw2 := ⟨y_KV_same (y_outB_ok (by decide +kernel)) u6 hK1.1, y_KV_same (y_outB_ok (by decide +kernel)) u6 hK1.2.1, y_KV_same (y_outB_ok (by decide +kernel)) u6 hK1.2.2⟩
  have hP1 : jKp 93 1 94 95 96 97 cw1 cw2 := ⟨lw_op1 (w := yw245) o7 u6 (by decide +kernel), (lw_cellR (lw_cellK (w := yw245) (r := 94) o7 u6 rfl (by decide +kernel))).1, (lw_cellR (lw_cellK (w := yw245) (r := 95) o7 u6 rfl (by decide +kernel))).1, (lw_cellR (lw_cellK (w := yw245) (r := 96) o7 u6 rfl (by decide +kernel))).1, (lw_cellR (lw_cellK (w := yw245) (r := 97) o7 u6 rfl (by decide +kernel))).2⟩
  have hP2 : jKp 114 121 203 204 205 206 cw cw1 := ⟨lw_op2 (w := yw145) s5 o6 (by decide +kernel), (lw_cellR (lw_cellK (w := yw145) (r := 203) s5 o6 rfl (by decide +kernel))).1, (lw_cellR (lw_cellK (w := yw145) (r := 204) s5 o6 rfl (by decide +kernel))).1, (lw_cellR (lw_cellK (w := yw145) (r := 205) s5 o6 rfl (by decide +kernel))).1, (lw_cellR (lw_cellK (w := yw145) (r := 206) s5 o6 rfl (by decide +kernel))).2⟩
  have hZ2 : lwZ cw2 := ⟨(lwZ0_same (w := yw245) (by decide +kernel) (by decide +kernel) o7 u6 hz1).1, lwR_same (w := yw245) (by decide +kernel) u6 hR1, lwJ_same (w := yw245) (by decide +kernel) o7 u6 hjj, lwO_jou hX hZ.2.2.2 hE1 hE2 hP1 hP2⟩
  refine lv_pop hF.1 hF.2.1 (y_dcd_ok (by decide +kernel)) rfl ?_
  refine lv_goto (off := 369) (tgt := 1780) hF.1 hF.2.1 (y_dcd_ok (by decide +kernel)) (by decide) ?_
  exact kk lwEnd (List.mem_singleton.mpr rfl) H2 locs2 cw2 tys2 tg2 ls ⟨⟨m1, m2, m3, m4, u7, hK2, u6.1 0 aX a1, u6.1 114 aM a2⟩, hZ2⟩ hls
end LG
