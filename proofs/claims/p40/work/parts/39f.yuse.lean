-- laws used, windows closed
abbrev yLw : Type := List yIt × List (List yIt)
abbrev yCl : Type := List (Nat × Nat × Nat) × List yIt
def y_AIr (n0 : Nat) (lv : List (Nat × Value)) (cw : va_W) : List Int32 → List yIt → List Int32 → Prop
  | gs, [], gs' => gs' = gs
  | gs, .inl e :: is, gs' => ∃ x y, y_pls n0 gs lv cw e.1 x ∧ y_prw n0 cw [e.2.1] x y ∧ y_in e.2.2 (z_b y) ∧ y_AIr n0 lv cw (gs ++ [y]) is gs'
  | gs, .inr e :: is, gs' => ∃ x y, y_pls n0 gs lv cw e.2.1 x ∧ y_pls n0 gs lv cw e.2.2.1 y ∧ y_in e.2.2.2 (z_b (y_op (e.1 % 100) x y)) ∧ y_AIr n0 lv cw (gs ++ [y_op (e.1 % 100) x y]) is gs'
noncomputable def y_entK (lo : yLo) (env : yEnv) (h : yHp) (is : List yIt) : List yV → (List yV → Bool) → Bool := y_fl (fun q ih gh k => match q with
  | .inl e => y_plv gh env lo h.2.1 h.2.2.1 e.1 fun v => y_pll env h.2.2.1 [e.2.1] v fun w => and (y_dm env w fun D => y_sub D e.2.2) (ih (y_snc gh w) k)
  | .inr e => y_plv gh env lo h.2.1 h.2.2.1 e.2.1 fun v => y_plv gh env lo h.2.1 h.2.2.1 e.2.2.1 fun w => cond (Nat.beq e.1 1) (and (y_df h.1 env v w fun D => y_sub D e.2.2.2) (ih (y_snc gh y_null) k)) (y_rs env v fun v => y_rs env w fun w => y_ev2 (e.1 % 100) v w h.1 fun r => and (y_dm env r fun D => y_sub D e.2.2.2) (ih (y_snc gh r) k))) (fun gh k => k gh) is
section YP
variable {cls : List vw_C} {K : va_W → Prop} {tb : yTb} {b : Nat → Nat}
theorem y_entK_ok {ρ : yRo} {env : yEnv} {cw : va_W} {lo : yLo} {lv : List (Nat × Value)} {h : yHp} (hLR : y_LR (y_g tb ρ b) lo lv) (he : y_erel (y_sg ρ) env) (hr : y_rrel (y_sg ρ) h.1) (hfx : y_fxr tb ρ b cw h.2.1) (hax : y_axr tb ρ b cw h.2.2.1) : ∀ {is : List yIt} {gh : List yV} {gs : List Int32} {k : List yV → Bool}, y_entK lo env h is gh k = true → y_GH (y_sg ρ) gh gs → ∃ gh' gs', y_AIr tb.1.length lv cw gs is gs' ∧ y_GH (y_sg ρ) gh' gs' ∧ k gh' = true
  | [], gh, gs, k, hev, hg => ⟨gh, gs, rfl, hg, hev⟩
  | .inl e :: is, gh, gs, k, hev, hg => by
    obtain ⟨v, x, g1, g2, g3⟩ := y_plv_ok (show y_plv gh env lo h.2.1 h.2.2.1 e.1 (fun v => y_pll env h.2.2.1 [e.2.1] v fun w => and (y_dm env w fun D => y_sub D e.2.2) (y_entK lo env h is (y_snc gh w) k)) = true from hev) hLR hg.2 he hfx hax
    obtain ⟨w, y, g4, g5, g6⟩ := y_pll_ok he hax g3 g2
    obtain ⟨g6, g7⟩ := z_and g6
    obtain ⟨D, d1, d2⟩ := y_dm_ok g6 he g5
    obtain ⟨gh', gs', r1, r2, r3⟩ := y_entK_ok hLR he hr hfx hax g7 (y_GH_snoc hg fun _ => g5)
    exact ⟨gh', gs', ⟨x, y, g1, g4, y_sub_ok d2 d1, r1⟩, r2, r3⟩
  | .inr e :: is, gh, gs, k, hev, hg => by
    obtain ⟨v, x, g1, g2, g3⟩ := y_plv_ok (show y_plv gh env lo h.2.1 h.2.2.1 e.2.1 (fun v => y_plv gh env lo h.2.1 h.2.2.1 e.2.2.1 fun w => cond (Nat.beq e.1 1) (and (y_df h.1 env v w fun D => y_sub D e.2.2.2) (y_entK lo env h is (y_snc gh y_null) k)) (y_rs env v fun v => y_rs env w fun w => y_ev2 (e.1 % 100) v w h.1 fun r => and (y_dm env r fun D => y_sub D e.2.2.2) (y_entK lo env h is (y_snc gh r) k))) = true from hev) hLR hg.2 he hfx hax
    obtain ⟨w, y, g4, g5, g6⟩ := y_plv_ok g3 hLR hg.2 he hfx hax
    rcases y_bool g6 with ⟨hc, g7⟩ | ⟨_, g7⟩
    · have hc := Nat.eq_of_beq_eq_true hc
      obtain ⟨g7, g8⟩ := z_and g7
      obtain ⟨D, d1, d2⟩ := y_df_ok g7 hr he g2 g5
      obtain ⟨gh', gs', r1, r2, r3⟩ := y_entK_ok hLR he hr hfx hax g8 (y_GH_snoc (x := y_op (e.1 % 100) x y) hg fun z => by cases z)
      refine ⟨gh', gs', ⟨x, y, g1, g4, ?_, r1⟩, r2, r3⟩
      rw [hc]
      exact y_sub_ok d2 d1
    · obtain ⟨v', i1, g7⟩ := y_rs_ok g7 he g2
      obtain ⟨w', i2, g7⟩ := y_rs_ok g7 he g5
      obtain ⟨r, d1, d2⟩ := y_ev2_ok g7 hr i1 i2
      obtain ⟨d2, d3⟩ := z_and d2
      obtain ⟨D, d4, d5⟩ := y_dm_ok d2 he d1
      obtain ⟨gh', gs', r1, r2, r3⟩ := y_entK_ok hLR he hr hfx hax d3 (y_GH_snoc hg fun _ => d1)
      exact ⟨gh', gs', ⟨x, y, g1, g4, y_sub_ok d5 d4, r1⟩, r2, r3⟩
/-- a law is true -/
def y_LwT (cls : List vw_C) (tb : yTb) (K : va_W → Prop) (m : Nat) (L : yLw) : Prop := ∀ (cw : va_W) (tys : List (ClassId × FieldType)) (tg : List yC) (lv : List (Nat × Value)) (gs gs' : List Int32), gs.length = m → y_WT tb cls tys tg cw → K cw → y_AIr tb.1.length lv cw gs L.1 gs' → ∃ al ∈ L.2, y_AI tb.1.length lv cw gs' al
noncomputable def y_use (L : yLw) (gp : List yPl) : yPf := fun lo _ n env h k => cond (y_eml h.2.2.2) (y_gho env lo h.2.1 h.2.2.1 gp fun gh => y_entK lo env h L.1 gh fun gh => y_fl (fun al r => and (y_opi lo h.2.1 al gh n env h.1 h.2.2.1 fun n env rl ax => k n env (rl, h.2.1, ax, h.2.2.2)) r) true L.2) false
theorem y_use_ok (hKs : y_Kst tb K) {L : yLw} (gp : List yPl) (hL : y_LwT cls tb K gp.length L) : y_H1 cls K (y_use L gp) tb b := by
  intro lo st n env h k ρ cw tys cst lv hK had hW he hr hfx hax hnl hps hps0 hLR hSR hev
  obtain ⟨hm, hv1⟩ := z_cond hev
  obtain ⟨gh, gs, hGS, hg, hv2⟩ := y_gho_ok hLR he hfx hax hv1
  obtain ⟨gh', gs', hA, hg', hv3⟩ := y_entK_ok hLR he hr hfx hax hv2 hg
  obtain ⟨al, ha, hAl⟩ := hL cw tys (y_tg ρ) lv gs gs' (y_GS_len hGS) hW (y_KL_nil hKs hm hK) hA
  have hv4 := y_flall (f := fun al => y_opi lo h.2.1 al gh' n env h.1 h.2.2.1 fun n env rl ax => k n env (rl, h.2.1, ax, h.2.2.2)) hv3 al ha
  obtain ⟨ρ', n', env', rl', ax', k1, k2, k3, k4, k5, k6, k6', k7, k8⟩ := y_opi_ok (fun _ _ z => z) hv4 hAl hLR hg' hnl hps hps0 he hr hfx hax
  exact ⟨ρ', n', env', (rl', h.2.1, ax', h.2.2.2), k1, k2, k3, k4, k5, k6, k6', y_fxr_mono k1 hfx, k7, y_KL_mono k1 hK, k8⟩
-- closing
def y_fst2 (q : yLg) : yV := match q.1 with
  | 1 => q.2.2.2
  | 3 => q.2.2.2
  | _ => q.2.2.1
def y_okf (p : Nat × Nat × Nat) (q : yLg) : Bool := match q.1 with
  | 1 => y_eqv q.2.2.1 (.inl p.2.2)
  | 3 => y_eqv q.2.2.1 (.inl p.2.2)
  | _ => true
noncomputable def y_ml1 (p : Nat × Nat × Nat) (ih : List yLg → (List yV → Bool) → Bool) (lg : List yLg) (k : List yV → Bool) : Bool := match lg with
  | [] => false
  | q :: lg => cond (and (Nat.beq q.1 p.1) (and (Nat.beq q.2.1 p.2.1) (and (Nat.ble p.1 3) (y_okf p q)))) (ih lg fun t => k (y_fst2 q :: q.2.2.2 :: t)) false
noncomputable def y_mlg (pat : List (Nat × Nat × Nat)) : List yLg → (List yV → Bool) → Bool := y_fl y_ml1 (fun lg k => cond (y_eml lg) (k []) false) pat
def y_lgc (n0 : Nat) (wr : yWr) (cwB : va_W) : List (Nat × Nat × Nat) → List Int32 → va_W → Prop
  | [], [], cw => y_same n0 wr cwB cw
  | (0, r, _) :: ps, x :: y :: gs, cw => ∃ (cwm : va_W) (a : Nat) (cA : ClassId) (len : Nat) (f : Nat → Int32), y_lgc n0 wr cwB ps gs cwm ∧ r < n0 ∧ cwm[r]? = some (a, .inl (cA, len, .inl f)) ∧ x.toNatClampNeg + 2147483648 = z_b x ∧ y_same n0 wr (cwm.set r (a, .inl (cA, len, .inl (upd f x.toNatClampNeg y)))) cw
  | (1, r, fl) :: ps, _ :: y :: gs, cw => ∃ (cwm : va_W) (a ci : Nat) (vs : List Value), y_lgc n0 wr cwB ps gs cwm ∧ r < n0 ∧ cwm[r]? = some (a, .inr (ci, vs)) ∧ y_same n0 wr (cwm.set r (a, .inr (ci, vs.set fl (.int y)))) cw
  | (2, r, _) :: ps, x :: y :: gs, cw => ∃ (cwm : va_W) (a : Nat) (cA : ClassId) (len : Nat) (f : Nat → Int32), y_lgc n0 wr cwB ps gs cwm ∧ r < n0 ∧ cwm[r]? = some (a, .inl (cA, len, .inl f)) ∧ x.toNatClampNeg + 2147483648 = z_b x ∧ y = f x.toNatClampNeg ∧ y_same n0 wr cwm cw
  | (3, r, fl) :: ps, _ :: y :: gs, cw => ∃ (cwm : va_W) (a ci : Nat) (vs : List Value), y_lgc n0 wr cwB ps gs cwm ∧ r < n0 ∧ cwm[r]? = some (a, .inr (ci, vs)) ∧ vs[fl]? = some (.int y) ∧ y_same n0 wr cwm cw
  | _, _, _ => False
theorem y_GH_cons2 {sg : List Int32} {gh : List yV} {gs : List Int32} {v w : yV} {x y : Int32} (hv : y_gi sg v x) (hw : y_gi sg w y) (hg : y_GH sg gh gs) : y_GH sg (v :: w :: gh) (x :: y :: gs) := by
  refine ⟨by simp [hg.1], fun i z hz hi => ?_⟩
  match i, hz with
  | 0, hz => cases hz; exact ⟨x, rfl, hv⟩
  | 1, hz => cases hz; exact ⟨y, rfl, hw⟩
  | i + 2, hz => exact hg.2 i z (by simpa using hz) hi
theorem y_mlg_ok {n0 : Nat} {wr : yWr} {sg : List Int32} {cwB : va_W} : ∀ {pat : List (Nat × Nat × Nat)} {lg : List yLg} {cw : va_W} {k : List yV → Bool}, y_mlg pat lg k = true → y_lgr n0 wr sg cwB lg cw → ∃ gh gs, y_GH sg gh gs ∧ y_lgc n0 wr cwB pat gs cw ∧ k gh = true
  | [], lg, cw, k, h, hl => by
    obtain ⟨h1, h2⟩ := z_cond (show cond (y_eml lg) (k []) false = true from h)
    cases lg with
    | nil => exact ⟨[], [], ⟨rfl, fun i v q => by simp at q⟩, hl, h2⟩
    | cons _ _ => cases h1
  | p :: pat, [], cw, k, h, hl => by cases h
  | (p1, p2, p3) :: pat, (q1, q2, q3, q4) :: lg, cw, k, h, hl => by
    obtain ⟨h1, h2⟩ := z_cond (show cond (and (Nat.beq q1 p1) (and (Nat.beq q2 p2) (and (Nat.ble p1 3) (y_okf (p1, p2, p3) (q1, q2, q3, q4))))) (y_mlg pat lg fun t => k (y_fst2 (q1, q2, q3, q4) :: q4 :: t)) false = true from h)
    obtain ⟨c1, d2⟩ := z_and h1
    obtain ⟨c2, d3⟩ := z_and d2
    obtain ⟨d4, c4⟩ := z_and d3
    clear h h1 d2 d3
    have f1 := Nat.eq_of_beq_eq_true c1
    have f2 := Nat.eq_of_beq_eq_true c2
    have c3 := z_le_of d4
    clear c1 c2 d4
    subst f1
    subst f2
    match q1, c3, c4, h2, hl with
    | 0, _, _, h2, ⟨cwm, a, cA, len, f, x, y, l1, l2, l3, l4, l5, l6, l7⟩ =>
      obtain ⟨gh, gs, g1, g2, g3⟩ := y_mlg_ok h2 l1
      exact ⟨_, _, y_GH_cons2 l4 l6 g1, ⟨cwm, a, cA, len, f, g2, l2, l3, l5, l7⟩, g3⟩
    | 1, _, c4, h2, ⟨cwm, a, ci, vs, fl, y, l0, l1, l2, l3, l4, l5⟩ =>
      obtain ⟨gh, gs, g1, g2, g3⟩ := y_mlg_ok h2 l1
      have e : q3 = .inl p3 := y_eqv_ok c4
      rw [e] at l0
      cases l0
      exact ⟨_, _, y_GH_cons2 l4 l4 g1, ⟨cwm, a, ci, vs, g2, l2, l3, l5⟩, g3⟩
    | 2, _, _, h2, ⟨cwm, a, cA, len, f, x, l1, l2, l3, l4, l5, l6, l7⟩ =>
      obtain ⟨gh, gs, g1, g2, g3⟩ := y_mlg_ok h2 l1
      exact ⟨_, _, y_GH_cons2 l4 l6 g1, ⟨cwm, a, cA, len, f, g2, l2, l3, l5, rfl, l7⟩, g3⟩
    | 3, _, c4, h2, ⟨cwm, a, ci, vs, fl, y, l0, l1, l2, l3, l4, l5, l6⟩ =>
      obtain ⟨gh, gs, g1, g2, g3⟩ := y_mlg_ok h2 l1
      have e : q3 = .inl p3 := y_eqv_ok c4
      rw [e] at l0
      cases l0
      exact ⟨_, _, y_GH_cons2 l4 l4 g1, ⟨cwm, a, ci, vs, g2, l2, l3, l5, l6⟩, g3⟩
    | n + 4, c3, _, _, _ => omega
/-- a closing is true -/
def y_ClT (cls : List vw_C) (tb : yTb) (K : va_W → Prop) (C : yCl) : Prop := ∀ (cwB cw : va_W) (tys : List (ClassId × FieldType)) (tg : List yC) (lv : List (Nat × Value)) (gs : List Int32), y_WT tb cls tys tg cw → K cwB → y_lgc tb.1.length (y_plw tb.2.2.2.2.2) cwB C.1 gs cw → y_AI tb.1.length lv cw gs C.2 → K cw
noncomputable def y_clo (C : yCl) : yPf := fun lo _ n env h k => y_mlg C.1 h.2.2.2 fun gh => and (y_entI lo env h C.2 gh) (k n env (h.1, h.2.1, h.2.2.1, []))
theorem y_clo_ok {C : yCl} (hC : y_ClT cls tb K C) : y_H1 cls K (y_clo C) tb b := by
  intro lo st n env h k ρ cw tys cst lv hK had hW he hr hfx hax hnl hps hps0 hLR hSR hev
  obtain ⟨cwB, b1, b2⟩ := hK
  obtain ⟨gh, gs, hg, hl, hv⟩ := y_mlg_ok (show y_mlg C.1 h.2.2.2 _ = true from hev) b2
  obtain ⟨hv1, hv2⟩ := z_and hv
  have hA := y_entI_ok hLR he hr hfx hax hv1 hg
  exact ⟨ρ, n, env, (h.1, h.2.1, h.2.2.1, []), y_rle_refl ρ, rfl, rfl, hnl, ⟨hps, hps0⟩, he, hr, hfx, hax, y_KL_of (hC cwB cw tys (y_tg ρ) lv gs hW b1 hl hA), hv2⟩
-- thrice a sign, and 0 to 2
theorem y_thr : ∀ k : Nat, k < 24 → ∀ e : Nat, e < 3 → y_op 5 (3 * nI k + nI e) 3 = nI k ∧ y_op 4 (3 * nI k + nI e) 3 = nI e := by decide
noncomputable def y_is3 (c : yV) : Bool := match c with
  | .inl u => Nat.beq u 3
  | _ => false
noncomputable def y_dv3 (A : yPl) : yPf := fun lo _ n env h k => y_plv [] env lo h.2.1 h.2.2.1 A fun v => y_nrm h.1 64 v 0 fun a e => cond (Nat.blt e 3) (y_frs 2 a h.1 fun c s => cond (y_is3 c) (y_sg1 s fun i => y_lk env i fun D => cond (y_sub D [(2147483648, 2147483671)]) (z_frc (n + 1) fun n' => z_frc (z_bu e) fun be => k n' ((n, [(be, be)]) :: env) ((5, v, .inl 3, i) :: (4, v, .inl 3, n) :: h.1, h.2)) false) false) false
theorem y_dv3_ok (A : yPl) : y_H1 cls K (y_dv3 A) tb b := by
  intro lo st n env h k ρ cw tys cst lv hK had hW he hr hfx hax hnl hps hps0 hLR hSR hev
  obtain ⟨v, x, _, iv, hv1⟩ := y_plv_ok (gs := []) (show y_plv [] env lo h.2.1 h.2.2.1 A _ = true from hev) hLR (fun i v q => by simp at q) he hfx hax
  obtain ⟨a, e, xa, ia, ea, hv2⟩ := y_nrm_ok hr 64 hv1 iv
  obtain ⟨he3, hv3⟩ := z_cond hv2
  have he3 : e < 3 := Nat.le_of_ble_eq_true he3
  obtain ⟨c, s, xc, xs, ic, is, e2, hv4⟩ := y_frs_ok hv3 hr ia
  obtain ⟨h3, hv5⟩ := z_cond hv4
  obtain ⟨i, rfl, hv6⟩ := y_sg1_ok hv5
  obtain ⟨D, d1, hv7⟩ := y_lk_ok hv6 he is
  obtain ⟨hs, hv8⟩ := z_cond hv7
  rw [z_frc_eq, z_frc_eq] at hv8
  have hc3 : xc = 3 := by
    match c, h3, ic with
    | .inl u, h3, ic => rw [show xc = nI u from ic, Nat.eq_of_beq_eq_true h3]; decide
  have hb := y_sub_ok hs d1
  obtain ⟨kk, hk, hxs⟩ : ∃ kk, kk < 24 ∧ xs = nI kk := by
    rcases y_in_cons.mp hb with q | q
    · have q1 := q.1
      have q2 := q.2
      dsimp only at q1 q2
      refine ⟨z_b xs - 2147483648, by omega, ?_⟩
      apply Int32.toInt_inj.mp
      have i1 := z_b_int xs
      have i2 := z_b_int (nI (z_b xs - 2147483648))
      have i3 := z_b_nI (z_b xs - 2147483648)
      unfold z_bu at i3
      omega
    · exact absurd q y_in_nil
  obtain ⟨t1, t2⟩ := y_thr kk hk e he3
  have ex : x = 3 * nI kk + nI e := by
    have e2 : xa = xc * xs := e2
    rw [y_nI0, Int32.add_zero] at ea
    rw [ea, e2, hc3, hxs]
  refine y_add (x := nI e) (rl' := (5, v, .inl 3, i) :: (4, v, .inl 3, n) :: h.1) (ax' := h.2.2.1) hK he hfx hnl hps hps0 (y_in_z rfl) (fun ρ' u1 u6 => ?_) (fun ρ' u1 _ => y_axr_mono u1 hax) hv8
  have i3 : y_gi (y_sg ρ) (.inl 3) 3 := by show (3 : Int32) = nI 3; decide
  intro p hp
  rcases List.mem_cons.mp hp with rfl | hp
  · exact ⟨x, 3, y_gi_mono u1.1 iv, y_gi_mono u1.1 i3, by
      have := u1.1 _ _ (show (y_sg ρ)[i]? = some xs from is)
      rw [ex, t1, ← hxs]
      exact this⟩
  · exact y_rl1 (op := 4) hr u1.1 iv i3 (by rw [ex, t2]; exact u6) p hp
/-- a list of hints -/
noncomputable def y_hnL (hs : List yPf) : yHn := fun fl lo st n env h k => cond (Nat.ble fl 9) (y_hn0 fl lo st n env h k) (z_opl hs (fl - 10) fun f => f lo st n env h k)
theorem y_hnL_ok {hs : List yPf} (h : ∀ f ∈ hs, y_H1 cls K f tb b) : y_Hint cls K (y_hnL hs) tb b := by
  intro fl lo st n env h' k ρ cw tys cst lv hK had hW he hr hfx hax hnl hps hps0 hLR hSR hev
  rcases y_bool hev with ⟨_, hev⟩ | ⟨_, hev⟩
  · exact y_hn0_ok fl lo st n env h' k ρ cw tys cst lv hK had hW he hr hfx hax hnl hps hps0 hLR hSR hev
  · obtain ⟨f, hf, hev⟩ := z_opl_ok hev
    exact h f (List.mem_of_getElem? hf) lo st n env h' k ρ cw tys cst lv hK had hW he hr hfx hax hnl hps hps0 hLR hSR hev
end YP
