-- fields and elements known by their shapes; sums by three; pairs; a train's field
section YP
variable {cls : List vw_C} {K : va_W → Prop} {tb : yTb} {b : Nat → Nat}
noncomputable def y_kno (S : List yC) (c f : Nat) : yPf := fun _ _ n env h k => y_ff h.2.1 0 c f (fun _ => k n env h) (z_opl S c fun s => match s with
  | .inl (_, ts) => z_opl ts f fun t => (match t with
    | .inl D => z_frc (n + 1) fun n' => k n' ((n, D) :: env) (h.1, (0, c, f, y_sy n) :: h.2.1, h.2.2)
    | _ => false)
  | .inr _ => false)
theorem y_kno_ok {S : List yC} (hS : tb.1 = S) (c f : Nat) : y_H1 cls K (y_kno S c f) tb b := by
  intro lo st n env h k ρ cw tys cst lv hK had hW he hr hfx hax hnl hps hps0 hLR hSR hev
  subst hS
  rcases y_ff_ok hev hfx with ⟨_, _, _, _, _, _, _, _, _, _, _, hev⟩ | hev
  · exact y_skip_ok lo st n env h k ρ cw tys cst lv hK had hW he hr hfx hax hnl hps hps0 hLR hSR hev
  · obtain ⟨s, hs, hev⟩ := z_opl_ok hev
    match s, hs, hev with
    | .inl (ci, ts), hs, hev =>
      obtain ⟨t, ht, hev⟩ := z_opl_ok hev
      match t, ht, hev with
      | .inl D, ht, hev =>
        have hev : z_frc (n + 1) (fun n' => k n' ((n, D) :: env) (h.1, (0, c, f, y_sy n) :: h.2.1, h.2.2)) = true := hev
        rw [z_frc_eq] at hev
        obtain ⟨dy, hdy, hdy2⟩ := hW.2.1
        have hl : c < tb.1.length := (List.getElem?_eq_some_iff.mp hs).1
        have ht0 : (y_tg ρ)[c]? = some (.inl (ci, ts)) := by rw [hdy, List.getElem?_append_left hl]; exact hs
        have hc0 : c < cw.length := by rw [hW.1]; exact (List.getElem?_eq_some_iff.mp ht0).1
        have had0 : (y_ad ρ)[c]? = some (cw[c].1) := by rw [had, List.getElem?_map, List.getElem?_eq_getElem hc0]; rfl
        obtain ⟨vs, r1, r2⟩ := y_cobj hW had had0 ht0
        obtain ⟨w, r3, r4⟩ := y_TL_get r2 ht
        obtain ⟨x, rfl, hx⟩ := (show ∃ x, w = .int x ∧ y_in D (z_b x) from r4)
        obtain ⟨ρ', u1, u2, u3, u4, u5, u6, u7⟩ := y_new hnl hps hps0 x none (fun p q => by cases q)
        refine ⟨ρ', n + 1, (n, D) :: env, (h.1, (0, c, f, y_sy n) :: h.2.1, h.2.2), u1, u2, u3, u4, u5, y_erel_cons (y_erel_mono u1.1 he) u6 hx, y_rrel_mono u1.1 hr, ?_, y_axr_mono u1 hax, y_KL_mono u1 hK, hev⟩
        intro q hq
        rcases List.mem_cons.mp hq with rfl | hq
        · exact ⟨fun _ => hl, c, _, ci, vs, .int x, rfl, r1, r3, ⟨x, u6, rfl⟩⟩
        · exact y_fxr_mono u1 hfx q hq
noncomputable def y_lde (S : List yC) (r u : Nat) : yPf := fun _ _ n env h k => y_fa h.2.2.1 0 r (.inl u) (fun _ => k n env h) (z_opl S r fun s => match s with
  | .inr (q, len, .inl D) => cond (and (Nat.blt q 3) (and (Nat.blt u len) (Nat.blt u 2147483648))) (z_frc (n + 1) fun n' => k n' ((n, D) :: env) (h.1, h.2.1, (0, r, .inl u, y_sy n) :: h.2.2.1, h.2.2.2)) false
  | _ => false)
theorem y_nIc {u : Nat} (h : u < 2147483648) : (nI u).toNatClampNeg = u ∧ (nI u).toNatClampNeg + 2147483648 = z_b (nI u) := by
  have h1 := z_b_nI u
  have h2 := z_b_int (nI u)
  have h3 : z_bu u = u + 2147483648 := by
    unfold z_bu
    omega
  have h4 : ((nI u).toNatClampNeg : Int) = (nI u).toInt := by
    show (((nI u).toInt.toNat : Nat) : Int) = (nI u).toInt
    omega
  constructor <;> omega
theorem y_lde_ok {S : List yC} (hS : tb.1 = S) (r u : Nat) : y_H1 cls K (y_lde S r u) tb b := by
  intro lo st n env h k ρ cw tys cst lv hK had hW he hr hfx hax hnl hps hps0 hLR hSR hev
  subst hS
  rcases y_fa_ok hev hax with ⟨_, _, _, _, _, _, _, _, _, _, _, hev⟩ | hev
  · exact y_skip_ok lo st n env h k ρ cw tys cst lv hK had hW he hr hfx hax hnl hps hps0 hLR hSR hev
  · obtain ⟨s, hs, hev⟩ := z_opl_ok hev
    match s, hs, hev with
    | .inr (q, len, .inl D), hs, hev =>
      obtain ⟨hc, hev⟩ := z_cond (show cond (and (Nat.blt q 3) (and (Nat.blt u len) (Nat.blt u 2147483648))) (z_frc (n + 1) fun n' => k n' ((n, D) :: env) (h.1, h.2.1, (0, r, .inl u, y_sy n) :: h.2.2.1, h.2.2.2)) false = true from hev)
      rw [z_frc_eq] at hev
      obtain ⟨c1, c2⟩ := z_and hc
      obtain ⟨c2, c3⟩ := z_and c2
      have c1 : q < 3 := Nat.le_of_ble_eq_true c1
      have c2 : u < len := Nat.le_of_ble_eq_true c2
      have c3 : u < 2147483648 := Nat.le_of_ble_eq_true c3
      obtain ⟨dy, hdy, hdy2⟩ := hW.2.1
      have hl : r < tb.1.length := (List.getElem?_eq_some_iff.mp hs).1
      have ht0 : (y_tg ρ)[r]? = some (.inr (q, len, .inl D)) := by rw [hdy, List.getElem?_append_left hl]; exact hs
      have hc0 : r < cw.length := by rw [hW.1]; exact (List.getElem?_eq_some_iff.mp ht0).1
      have had0 : (y_ad ρ)[r]? = some (cw[r].1) := by rw [had, List.getElem?_map, List.getElem?_eq_getElem hc0]; rfl
      obtain ⟨cA, d, t0, r1, r2, r3⟩ := y_crow hW had had0 ht0
      have r4 : ∃ f, d = .inl f ∧ ∀ j, j < len → y_tv tb (cw.map Prod.fst) (y_tg ρ) (.inl D) (.int (f j)) := by
        match q, c1, r3 with
        | 0, _, r3 => exact r3
        | 1, _, r3 => exact r3
        | 2, _, r3 => exact r3
      obtain ⟨f, rfl, r5⟩ := r4
      obtain ⟨x, hx1, hx⟩ := (show ∃ x, (Value.int (f u)) = .int x ∧ y_in D (z_b x) from r5 u c2)
      cases hx1
      obtain ⟨k1, k2⟩ := y_nIc c3
      refine y_add (x := f u) (rl' := h.1) (ax' := (0, r, .inl u, y_sy n) :: h.2.2.1) hK he hfx hnl hps hps0 hx (fun ρ' u1 _ => y_rrel_mono u1.1 hr) (fun ρ' u1 u6 => ?_) hev
      intro q' hq'
      rcases List.mem_cons.mp hq' with rfl | hq'
      · exact ⟨fun _ => hl, r, _, cA, len, f, nI u, rfl, r1, rfl, k2, ⟨f u, u6, by rw [k1]⟩⟩
      · exact y_axr_mono u1 hax q' hq'
-- what was taken off
noncomputable def y_mns : yPf := fun _ st n env h k => y_one1 st fun v => y_frs 1 v h.1 fun x y => y_sg1 y fun i => k n env ((1, x, v, i) :: h.1, h.2)
theorem y_ring7 (x y : Int32) : x - (x - y) = y := by grind
theorem y_mns_ok : y_H1 cls K y_mns tb b := by
  intro lo st n env h k ρ cw tys cst lv hK had hW he hr hfx hax hnl hps hps0 hLR hSR hev
  obtain ⟨v, z, iv, hv1⟩ := y_one1_ok hev hSR
  obtain ⟨x, y, xx, xy, ix, iy, ez, hv2⟩ := y_frs_ok hv1 hr iv
  obtain ⟨i, rfl, hv3⟩ := y_sg1_ok hv2
  refine ⟨ρ, n, env, ((1, x, v, i) :: h.1, h.2), y_rle_refl ρ, rfl, rfl, hnl, ⟨hps, hps0⟩, he, (fun q hq => ?_), hfx, hax, hK, hv3⟩
  rcases List.mem_cons.mp hq with rfl | hq
  · refine ⟨xx, z, ix, iv, ?_⟩
    have ez : z = xx - xy := ez
    show (y_sg ρ)[i]? = some (xx - z)
    rw [ez, y_ring7]
    exact iy
  · exact hr q hq
-- of all relations only what a local is by another sign
noncomputable def y_slm (j : Nat) : yPf := fun lo _ n env h k => y_lkl lo j fun v => match v with
  | .inr (.inl i) => y_nrm h.1 64 (y_sy i) 0 fun a o => cond (y_eqv a (y_sy i)) (k n env ([], h.2)) (k n env ([(0, a, .inl o, i)], h.2))
  | .inl _ => k n env h
  | _ => false
theorem y_slm_ok (j : Nat) : y_H1 cls K (y_slm j) tb b := by
  intro lo st n env h k ρ cw tys cst lv hK had hW he hr hfx hax hnl hps hps0 hLR hSR hev
  obtain ⟨v, w, _, gv, hv1⟩ := y_lkl_lk hLR hev
  match v, gv, hv1 with
  | .inl u, gv, hv1 => exact y_skip_ok lo st n env h k ρ cw tys cst lv hK had hW he hr hfx hax hnl hps hps0 hLR hSR hv1
  | .inr (.inl i), gv, hv1 =>
    obtain ⟨x, ix, _⟩ := (show ∃ x, (y_sg ρ)[i]? = some x ∧ w = .int x from gv)
    obtain ⟨a, o, xa, ia, ea, hv2⟩ := y_nrm_ok hr 64 hv1 (show y_gi (y_sg ρ) (y_sy i) x from ix)
    rw [y_nI0, Int32.add_zero] at ea
    rcases y_bool hv2 with ⟨_, hv3⟩ | ⟨_, hv3⟩
    · exact ⟨ρ, n, env, ([], h.2), y_rle_refl ρ, rfl, rfl, hnl, ⟨hps, hps0⟩, he, (fun q hq => by cases hq), hfx, hax, hK, hv3⟩
    · refine ⟨ρ, n, env, ([(0, a, .inl o, i)], h.2), y_rle_refl ρ, rfl, rfl, hnl, ⟨hps, hps0⟩, he, (fun q hq => ?_), hfx, hax, hK, hv3⟩
      rcases List.mem_cons.mp hq with rfl | hq
      · exact ⟨xa, nI o, ia, rfl, by rw [ix, ea]; rfl⟩
      · cases hq
  | .inr (.inr _), _, hv1 => cases hv1
-- differences of pairs, the newest
noncomputable def y_ngi (D : yD) : yD := y_fl (fun p r => (4294967296 - p.2, 4294967296 - p.1) :: r) [] D
theorem y_ngi_ok {x : Int32} : ∀ {D : yD}, y_fl (fun p r => and (Nat.ble 1 p.1) r) true D = true → y_in D (z_b x) → y_in (y_ngi D) (z_b (0 - x))
  | [], _, h => absurd h y_in_nil
  | p :: D, hc, h => by
    obtain ⟨c1, c2⟩ := z_and (show and (Nat.ble 1 p.1) (y_fl (fun p r => and (Nat.ble 1 p.1) r) true D) = true from hc)
    have c1 := z_le_of c1
    show y_in ((4294967296 - p.2, 4294967296 - p.1) :: y_ngi D) _
    rcases y_in_cons.mp h with h | h
    · refine y_in_cons.mpr (Or.inl ?_)
      have i1 := z_b_int x
      have i2 := z_b_int (0 - x)
      have b1 := y_b_lt x
      have e : (0 - x).toInt = (0 : Int32).toInt - x.toInt := Jvm.Kit.i32_sub (by have : (0 : Int32).toInt = 0 := by decide
                                                                                  omega) (by have : (0 : Int32).toInt = 0 := by decide
                                                                                             omega)
      have : (0 : Int32).toInt = 0 := by decide
      dsimp only
      omega
    · exact y_in_cons.mpr (Or.inr (y_ngi_ok c2 h))
theorem y_ring6 (x y : Int32) : x - y = 0 - (y - x) := by grind
noncomputable def y_pr1 (r i j : Nat) : yPf := fun _ _ n env h k => y_fa h.2.2.1 0 r (.inl i) (fun a => y_fa h.2.2.1 0 r (.inl j) (fun c => y_fl (fun q s => cond (and (Nat.beq q.1 1) (and (y_eqv q.2.1 a) (y_eqv q.2.2.1 c))) (k n env (q :: h.1, h.2)) (cond (and (Nat.beq q.1 1) (and (y_eqv q.2.1 c) (y_eqv q.2.2.1 a))) (y_lk env q.2.2.2 fun D => cond (y_fl (fun p r => and (Nat.ble 1 p.1) r) true D) (z_frc (n + 1) fun n' => k n' ((n, y_ngi D) :: env) ((1, a, c, n) :: h.1, h.2)) (k n env h)) s)) (k n env h) h.1) (k n env h)) (k n env h)
theorem y_pr1_ok (r i j : Nat) : y_H1 cls K (y_pr1 r i j) tb b := by
  intro lo st n env h k ρ cw tys cst lv hK had hW he hr hfx hax hnl hps hps0 hLR hSR hev
  have skp : k n env h = true → _ := fun z => y_skip_ok lo st n env h k ρ cw tys cst lv hK had hW he hr hfx hax hnl hps hps0 hLR hSR z
  rcases y_fa_ok hev hax with ⟨a, _, _, _, _, _, _, _, _, _, _, hv1⟩ | hv1
  · rcases y_fa_ok hv1 hax with ⟨c, _, _, _, _, _, _, _, _, _, _, hv2⟩ | hv2
    · have gen : ∀ l : List yR, (∀ q ∈ l, q ∈ h.1) → y_fl (fun q s => cond (and (Nat.beq q.1 1) (and (y_eqv q.2.1 a) (y_eqv q.2.2.1 c))) (k n env (q :: h.1, h.2)) (cond (and (Nat.beq q.1 1) (and (y_eqv q.2.1 c) (y_eqv q.2.2.1 a))) (y_lk env q.2.2.2 fun D => cond (y_fl (fun p r => and (Nat.ble 1 p.1) r) true D) (z_frc (n + 1) fun n' => k n' ((n, y_ngi D) :: env) ((1, a, c, n) :: h.1, h.2)) (k n env h)) s)) (k n env h) l = true → ∃ ρ' n' env' h', y_rle ρ ρ' ∧ y_ad ρ' = y_ad ρ ∧ y_tg ρ' = y_tg ρ ∧ (y_sg ρ').length = n' ∧ ((∀ i, n' ≤ i → y_ps ρ' i = none) ∧ ∀ i p, y_ps ρ' i = some p → tb.1.length ≤ p) ∧ y_erel (y_sg ρ') env' ∧ y_rrel (y_sg ρ') h'.1 ∧ y_fxr tb ρ' b cw h'.2.1 ∧ y_axr tb ρ' b cw h'.2.2.1 ∧ y_KL tb K (y_sg ρ') h'.2.2.2 cw ∧ k n' env' h' = true := by
        intro l
        induction l with
        | nil => intro _ z; exact skp z
        | cons q l ih =>
          intro hl z
          have ih := ih (fun p hp => hl p (List.mem_cons_of_mem _ hp))
          rcases y_bool (show cond (and (Nat.beq q.1 1) (and (y_eqv q.2.1 a) (y_eqv q.2.2.1 c))) (k n env (q :: h.1, h.2)) (cond (and (Nat.beq q.1 1) (and (y_eqv q.2.1 c) (y_eqv q.2.2.1 a))) (y_lk env q.2.2.2 fun D => cond (y_fl (fun p r => and (Nat.ble 1 p.1) r) true D) (z_frc (n + 1) fun n' => k n' ((n, y_ngi D) :: env) ((1, a, c, n) :: h.1, h.2)) (k n env h)) _) = true from z) with ⟨_, z1⟩ | ⟨_, z1⟩
          · refine ⟨ρ, n, env, (q :: h.1, h.2), y_rle_refl ρ, rfl, rfl, hnl, ⟨hps, hps0⟩, he, fun p hp => ?_, hfx, hax, hK, z1⟩
            rcases List.mem_cons.mp hp with rfl | hp
            · exact hr _ (hl _ List.mem_cons_self)
            · exact hr p hp
          · rcases y_bool z1 with ⟨hc, z2⟩ | ⟨_, z2⟩
            · obtain ⟨c1, c2⟩ := z_and hc
              obtain ⟨c2, c3⟩ := z_and c2
              obtain ⟨x, y, r1, r2, r3⟩ := hr q (hl q List.mem_cons_self)
              rw [Nat.eq_of_beq_eq_true c1] at r3
              rw [y_eqv_ok c2] at r1
              rw [y_eqv_ok c3] at r2
              obtain ⟨D, d1, z3⟩ := y_lk_ok z2 he r3
              rcases y_bool z3 with ⟨hg, z4⟩ | ⟨_, z4⟩
              · rw [z_frc_eq] at z4
                have d1 : y_in D (z_b (x - y)) := d1
                have d2 := y_ngi_ok hg d1
                rw [← y_ring6] at d2
                exact y_add (x := y - x) (rl' := (1, a, c, n) :: h.1) (ax' := h.2.2.1) hK he hfx hnl hps hps0 d2 (fun ρ' u1 u6 => y_rl1 (op := 1) hr u1.1 r2 r1 u6) (fun ρ' u1 _ => y_axr_mono u1 hax) z4
              · exact skp z4
            · exact ih z2
      exact gen h.1 (fun _ q => q) hv2
    · exact skp hv2
  · exact skp hv1
end YP
