theorem y_from_sub (l : List yEnt) (t : Nat) : ∀ x ∈ y_from l t, x ∈ l := by
  induction l with
  | nil => intro x h; exact h
  | cons e es ih =>
    intro x h
    have h : x ∈ cond (Nat.beq e.1 t) (e :: es) (y_from es t) := h
    cases hb : Nat.beq e.1 t with
    | true => rw [hb] at h; exact h
    | false => rw [hb] at h; exact List.mem_cons_of_mem _ (ih x h)
theorem y_dec_ok {mr : yMR} {q : Nat} {i : Jvm.ClassFile.Instr} (h : y_dec mr q i = true) : ∃ n, decode (y_cc mr) q = .ok (i, n) ∧ (z_isw i = true ∨ n = z_il i) := by
  unfold y_dec at h
  cases hd : decode (y_cc mr) q with
  | error e => rw [hd] at h; cases h
  | ok r =>
    rw [hd] at h
    dsimp only at h
    rw [Bool.and_eq_true, Bool.or_eq_true] at h
    obtain ⟨i', n⟩ := r
    have h1 : i' = i := of_decide_eq_true h.1
    subst h1
    exact ⟨n, rfl, h.2.imp id of_decide_eq_true⟩
theorem y_dl {mr : yMR} {q len : Nat} {i : Jvm.ClassFile.Instr} (hdg : decode (y_cc mr) q = .ok (i, len)) (h : z_isw i = true ∨ len = z_il i) (hs : z_isw i = false) : decode (y_cc mr) q = .ok (i, z_il i) := by
  rcases h with h | h
  · rw [hs] at h; cases h
  · rw [← h]; exact hdg
theorem y_okS_ok {nw : List Jvm.Cond} {own : String} {j x1 x3 : Nat} (h : y_okS nw own j x1 x3 = true) : ∃ tx, nw[x3]? = some (Jvm.Cond.stringRef own j tx) ∧ x1 % 1000 = 2 * x3 + 3 ∧ 3 ≤ x1 := by
  unfold y_okS at h
  split at h
  · rename_i a k tx hn
    obtain ⟨h1, h2⟩ := z_and h
    obtain ⟨h3, h4⟩ := z_and h1
    obtain ⟨h5, h6⟩ := z_and h2
    have h3 := of_decide_eq_true h3
    have h4 := of_decide_eq_true h4
    subst h3
    subst h4
    exact ⟨tx, hn, of_decide_eq_true h5, z_le_of h6⟩
  · cases h
theorem y_okG_ok {wt : zTB} {nw : List Jvm.Cond} {own : String} {j x1 x2 x3 : Nat} (h : y_okG wt nw own j x1 x2 x3 = true) : ∃ C n d, Jvm.Cond.eq (.static C n d) (.int (nI x1)) ∈ nw ∧ Jvm.Cond.fieldLink own j C n d ∈ z_G wt := by
  unfold y_okG at h
  split at h
  · rename_i a n d y hn
    obtain ⟨h1, h2⟩ := z_and h
    have h1 := of_decide_eq_true h1
    subst h1
    exact ⟨a, n, d, List.mem_of_getElem? hn, z_w_ok h2⟩
  · cases h
theorem y_okQ_ok {wt : zTB} {nw : List Jvm.Cond} {own : String} {j x2 x3 : Nat} (h : y_okQ wt nw own j x2 x3 = true) : ∃ C n d, Jvm.Cond.isRef (.static C n d) ∈ nw ∧ Jvm.Cond.fieldLink own j C n d ∈ z_G wt := by
  unfold y_okQ at h
  split at h
  · rename_i a n d hn
    exact ⟨a, n, d, List.mem_of_getElem? hn, z_w_ok h⟩
  · cases h
theorem y_tx3 {n : Nat} (h : n ∈ y_txs) : 3 ≤ n ∧ (n + 1) % 1000 = n % 1000 + 1 := (show ∀ n ∈ y_txs, 3 ≤ n ∧ (n + 1) % 1000 = n % 1000 + 1 from by decide) n h
theorem y_txt_ok {v : yV} {f : Nat → Bool} (h : y_txt v f = true) : ∃ m, v = .inr (.inr (.inr m)) ∧ m ∈ y_txs ∧ f m = true := by
  unfold y_txt at h
  split at h
  · rename_i m
    obtain ⟨h1, h2⟩ := z_cond h
    exact ⟨m, rfl, y_mem_ok h1, h2⟩
  · cases h
theorem y_tby_ok {v : yV} {f : Nat → Bool} {no : Bool} (h : y_tby v f no = true) : (∃ m, v = .inr (.inr (.inr (m + 1))) ∧ m ∈ y_txs ∧ f (m / 1000) = true) ∨ no = true := by
  unfold y_tby at h
  split at h
  · rename_i m
    obtain ⟨h1, h2⟩ := z_cond h
    have h1 := y_mem_ok h1
    have h3 := (y_tx3 h1).1
    refine Or.inl ⟨m - 1, ?_, h1, h2⟩
    rw [Nat.sub_add_cancel (by omega)]
  · exact Or.inr h
theorem y_isS_ok {v : yV} (h : y_isS v = true) : v = .inr (.inr (.inr 2)) := by
  unfold y_isS at h
  split at h
  · rw [Nat.eq_of_beq_eq_true h]
  · cases h
theorem y_six_int {rl : List yR} {j : yV} (h : y_six rl j = true) : y_isI j = true := by
  unfold y_six at h
  rcases Bool.or_eq_true_iff.mp h with h | h
  · rw [y_eqv_ok h]
    rfl
  · obtain ⟨q, _, h⟩ := y_flor h
    obtain ⟨_, h⟩ := z_and h
    obtain ⟨_, h⟩ := z_and h
    obtain ⟨h, _⟩ := z_and h
    rw [← y_eqv_ok h]
    rfl
theorem y_six_ok {sg : List Int32} {rl : List yR} {j : yV} {x0 y : Int32} (h : y_six rl j = true) (hr : y_rrel sg rl) (h0 : sg[0]? = some x0) (hj : y_gi sg j y) : ∃ c : Nat, c ≤ 5 ∧ y = x0 + nI c := by
  unfold y_six at h
  rcases Bool.or_eq_true_iff.mp h with h | h
  · have e := y_eqv_ok h
    subst e
    have : sg[0]? = some y := hj
    rw [h0] at this
    cases this
    refine ⟨0, by omega, ?_⟩
    rw [show nI 0 = 0 from by decide, Int32.add_zero]
  · obtain ⟨q, hq, h⟩ := y_flor h
    obtain ⟨h1, h2⟩ := z_and h
    obtain ⟨h2, h3⟩ := z_and h2
    obtain ⟨h3, h4⟩ := z_and h3
    have h1 := Nat.eq_of_beq_eq_true h1
    have h2 := y_eqv_ok h2
    have h3 := y_eqv_ok h3
    obtain ⟨x', y', g1, g2, g3⟩ := hr q hq
    rw [h1] at g3
    rw [h2] at g1
    split at h4
    · rename_i cc hcc
      rw [hcc] at g2
      have g2 : y' = nI cc := g2
      have g1 : sg[0]? = some x' := g1
      rw [h0] at g1
      cases g1
      subst g2
      rw [← h3] at hj
      have hj : sg[q.2.2.2]? = some y := hj
      rw [g3] at hj
      cases hj
      exact ⟨cc, z_le_of h4, rfl⟩
    · cases h4
theorem y_six_in {x0 : Int32} {c N : Nat} (h1 : ¬ x0 < 0) (h2 : x0.toNatClampNeg + 5 < N) (h3 : N ≤ 3072) (hc : c ≤ 5) : vp_in (x0 + nI c) N := by
  have e0 : (0 : Int) ≤ x0.toInt := by
    have := Int32.not_lt.mp h1
    simpa using Int32.le_iff_toInt_le.mp this
  have e1 : x0.toInt = (x0.toNatClampNeg : Int) := by
    show x0.toInt = ((x0.toInt.toNat : Nat) : Int)
    omega
  have e2 : (nI c).toInt = (c : Int) := by
    rcases (by omega : c = 0 ∨ c = 1 ∨ c = 2 ∨ c = 3 ∨ c = 4 ∨ c = 5) with rfl | rfl | rfl | rfl | rfl | rfl <;> decide
  have e3 : (x0 + nI c).toInt = x0.toInt + (c : Int) := by
    rw [Int32.toInt_add, e2]
    exact Int.bmod_eq_of_le (by omega) (by omega)
  intro z
  rcases z with z | z
  · have := Int32.lt_iff_toInt_lt.mp z
    rw [e3] at this
    have z0 : (0 : Int32).toInt = 0 := by decide
    omega
  · have : ((x0 + nI c).toInt.toNat : Nat) = x0.toNatClampNeg + c := by rw [e3]; omega
    have e4 : (x0 + nI c).toNatClampNeg = x0.toNatClampNeg + c := this
    omega
theorem y_zero {x : Int32} (h : z_b x = 2147483648) : x = 0 := by
  have h1 := z_b_int x
  have h2 : x.toInt = 0 := by omega
  have h3 : x = Int32.ofInt x.toInt := (Int32.ofInt_toInt x).symm
  rw [h3, h2]
  decide
theorem y_char {x : Int32} (h : y_in [(2147483648, 2147483903)] (z_b x)) : narrow .char (.int x) = .int x := by
  have h1 : 2147483648 ≤ z_b x ∧ z_b x ≤ 2147483903 := by
    rcases y_in_cons.mp h with w | w
    · exact w
    · exact absurd w y_in_nil
  have hb := z_b_int x
  obtain ⟨n, hn, e⟩ : ∃ n : Nat, n < 256 ∧ x.toInt = (n : Int) := ⟨x.toInt.toNat, by omega, by omega⟩
  have hx : x = Int32.ofInt (n : Int) := by rw [← e, Int32.ofInt_toInt]
  rw [hx]
  exact (show ∀ n : Fin 256, narrow .char (.int (Int32.ofInt (n.val : Int))) = .int (Int32.ofInt (n.val : Int)) from by decide +kernel) ⟨n, hn⟩
/-- the shapes fit the classes' fields -/
def y_shc (zty : List (Nat → FieldType)) (c : yC) : Prop := ∀ ci ts, c = .inl (ci, ts) → ∀ (f : Nat) (t : yT) (ty : Nat → FieldType), zty[ci]? = some ty → ts[f]? = some t → y_okT (ty f) t = true

set_option maxHeartbeats 40000000 in
set_option maxRecDepth 100000 in
theorem y_step_ok {wt : zTB} {nw : List Jvm.Cond} {cls : List vw_C} {zty : List (Nat → FieldType)} {zdv : List (List zAV)} {hn : yHn} {tb : yTb} {l : Launch} {D : va_G} {K : va_W → Prop} {b : Nat → Nat} {F fu : Nat} (hA : y_All wt nw cls zty zdv tb) (hSh : ∀ c, c ∈ tb.1 ∨ c = tb.2.1 ∨ c = tb.2.2.1 → y_shc zty c) (hKs : y_Kst tb K) (hC : ∀ (n : Nat) (cn : yCN), tb.2.2.2.2.1[n]? = some cn → (y_rm cn.1).frames < F → y_wle tb cn.2.2.2.2 = true → y_Con wt nw cls l D (fun cw => y_kc cn.2.2.2.2 = true → K cw) tb cn) (hH : y_Hint cls K hn tb b) (hS : y_Snd wt nw cls hn tb l D K b F fu) : y_Snd wt nw cls hn tb l D K b F (fu + 1) := by
  intro p e R s m args below meth c A cw0 ρ0 ce sl sp mr Q hF hFm hce hsl k hend hstop ρ H locs cw tys ls cst cd pc lo st n env h hcd hle0 hSt hFr hev
  have go : ∀ {ρ : yRo} {H : Heap} {locs : List Loc} {cw : va_W} {tys : List (ClassId × FieldType)} {ls : Array Slot} {cst : List Value} {cd : List yEnt} {pc : Nat} {lo : yLo} {st : List yV} {n : Nat} {env : yEnv} {h : yHp}, y_ev hn tb fu sp mr cd pc lo st n env h k = true → (∀ x ∈ cd, ∃ y ∈ y_cd mr, (x.1, x.2.1, x.2.2.1, x.2.2.2.1, x.2.2.2.2.1) = (y.1, y.2.1, y.2.2.1, y.2.2.2.1, y.2.2.2.2.1)) → y_rle ρ0 ρ → y_St cls D K tb b s A cw0 ρ H locs cw tys n env h → y_Fr tb ρ b (y_mL mr) ls lo st cst → W p l e R s m args below meth c H locs ce sl Q (F0 m pc ls cst) := fun h1 h2 h3 h4 h5 => hS p e R s m args below meth c A cw0 ρ0 ce sl sp mr Q hF hFm hce hsl k hend hstop _ _ _ _ _ _ _ _ _ _ _ _ _ _ h2 h3 h4 h5 h1
  have hcs : ce + 0 ≤ R.cells ∧ sl + 0 ≤ R.slots := ⟨hce, hsl⟩
  cases cd with
  | nil => exact absurd (show false = true from hev) Bool.false_ne_true
  | cons x r =>
    obtain ⟨q, i, x1, x2, x3, fl⟩ := x
    have hev : cond (Nat.beq q pc) (cond (Nat.beq fl 0) (y_ins i tb (y_ev hn tb fu) sp mr q x1 x2 x3 r lo st n env h k) (cond (Nat.beq fl 1) (sp pc lo st n env h) (hn fl lo st n env h fun n env h => y_ins i tb (y_ev hn tb fu) sp mr q x1 x2 x3 r lo st n env h k))) false = true := hev
    obtain ⟨hq, hev⟩ := z_cond hev
    have hq := Nat.eq_of_beq_eq_true hq
    subst hq
    have hr : ∀ x ∈ r, ∃ y ∈ y_cd mr, (x.1, x.2.1, x.2.2.1, x.2.2.2.1, x.2.2.2.2.1) = (y.1, y.2.1, y.2.2.1, y.2.2.2.1, y.2.2.2.2.1) := fun x h => hcd x (List.mem_cons_of_mem _ h)
    have hj : ∀ t, ∀ x ∈ y_from (y_cd mr) t, ∃ y ∈ y_cd mr, (x.1, x.2.1, x.2.2.1, x.2.2.2.1, x.2.2.2.2.1) = (y.1, y.2.1, y.2.2.1, y.2.2.2.1, y.2.2.2.2.1) := fun t x h => ⟨x, y_from_sub _ t x h, rfl⟩
    obtain ⟨hx, hb, hml, hown, hts, hR, hN, hA0, hcode⟩ := id hF
    obtain ⟨yy, hy1, hy2⟩ := hcd _ List.mem_cons_self
    have hok := hcode yy hy1
    obtain ⟨hdec, hokI⟩ := z_and hok
    obtain ⟨y1, y2, y3, y4, y5, y6⟩ := yy
    simp only [Prod.mk.injEq] at hy2
    obtain ⟨rfl, rfl, rfl, rfl, rfl⟩ := hy2
    obtain ⟨len, hdg, hlen⟩ := y_dec_ok hdec
    dsimp only at hdg hlen hokI
    have main : ∀ (ρ : yRo) (n : Nat) (env : yEnv) (h : yHp), y_rle ρ0 ρ → y_St cls D K tb b s A cw0 ρ H locs cw tys n env h → y_Fr tb ρ b (y_mL mr) ls lo st cst → y_ins i tb (y_ev hn tb fu) sp mr q x1 x2 x3 r lo st n env h k = true → W p l e R s m args below meth c H locs ce sl Q (F0 m q ls cst) := by
      intro ρ n env h hle0 hSt hFr hev
      obtain ⟨⟨lv, hlv, hLR⟩, hSR⟩ := id hFr
      obtain ⟨hK, hP, hD, hS0, had, hW, hKK, hsame, he, hrl, hfx, hax, hnl, hps, hps0⟩ := id hSt
      cases i with
      | iconst v =>
        have hev : y_h_iconst v tb (y_ev hn tb fu) sp mr q x1 x2 x3 r lo st n env h k = true := hev
        unfold y_h_iconst at hev
        have hdg := y_dl hdg hlen rfl
        have hev_1 := (z_frc_eq _ _).symm.trans hev
        refine lv_iconst hx hb hdg rfl (go hev_1 hr hle0 hSt ⟨⟨lv, hlv, hLR⟩, ?_, hSR⟩)
        exact congrArg Value.int (z_nI_un _).symm
      | bipush v =>
        have hev : y_h_bipush v tb (y_ev hn tb fu) sp mr q x1 x2 x3 r lo st n env h k = true := hev
        unfold y_h_bipush at hev
        have hdg := y_dl hdg hlen rfl
        have hev_2 := (z_frc_eq _ _).symm.trans hev
        refine lv_bipush hx hb hdg rfl (go hev_2 hr hle0 hSt ⟨⟨lv, hlv, hLR⟩, ?_, hSR⟩)
        exact congrArg Value.int (z_nI_un _).symm
      | sipush v =>
        have hev : y_h_sipush v tb (y_ev hn tb fu) sp mr q x1 x2 x3 r lo st n env h k = true := hev
        unfold y_h_sipush at hev
        have hdg := y_dl hdg hlen rfl
        have hev_3 := (z_frc_eq _ _).symm.trans hev
        refine lv_sipush hx hb hdg rfl (go hev_3 hr hle0 hSt ⟨⟨lv, hlv, hLR⟩, ?_, hSR⟩)
        exact congrArg Value.int (z_nI_un _).symm
      | ldc j =>
        have hev : y_h_ldc j tb (y_ev hn tb fu) sp mr q x1 x2 x3 r lo st n env h k = true := hev
        unfold y_h_ldc at hev
        have hdg := y_dl hdg hlen rfl
        have hev_4 := (z_frc_eq _ _).symm.trans hev
        have hokI : cond (Nat.beq x2 0) (z_w wt x3 (.constant (y_y mr).cls j (nI x1))) (y_okS nw (y_y mr).cls j x1 x3) = true := hokI
        rcases y_bool hev_4 with ⟨hb0, hev0⟩ | ⟨hb0, hev0⟩
        · rw [hb0, cond_true] at hokI
          exact lv_ldc hx hb hown (hts _ (z_w_ok hokI)) hdg (go hev0 hr hle0 hSt ⟨⟨lv, hlv, hLR⟩, rfl, hSR⟩)
        · rw [hb0, cond_false] at hokI
          obtain ⟨tx, k1, k2, k3⟩ := y_okS_ok hokI
          refine va_ldcS hx hb hown (hN.2.1 _ _ _ _ k1) hdg (go hev0 hr hle0 hSt ⟨⟨lv, hlv, hLR⟩, ?_, hSR⟩)
          exact (y_g_tx k3).mpr (by rw [k2])
      | getstatic j =>
        have hev : y_h_getstatic j tb (y_ev hn tb fu) sp mr q x1 x2 x3 r lo st n env h k = true := hev
        unfold y_h_getstatic at hev
        have hdg := y_dl hdg hlen rfl
        have hokI : cond (Nat.ble 4294967296 x1) (y_okQ wt nw (y_y mr).cls j x2 x3) (y_okG wt nw (y_y mr).cls j x1 x2 x3) = true := hokI
        rcases y_bool hev with ⟨hb0, hev0⟩ | ⟨hb0, hev0⟩
        · rw [hb0, cond_true] at hokI
          obtain ⟨C, n0, d0, k1, k2⟩ := y_okQ_ok hokI
          rcases hN.2.2.2.2.2 _ _ _ k1 with hZ | ⟨tq, hZ⟩
          · exact va_gets hx hb hZ hS0 hown (hts _ k2) (fun _ h9 => h9) hdg (go hev0 hr hle0 hSt ⟨⟨lv, hlv, hLR⟩, y_g_any.mpr (Or.inl rfl), hSR⟩)
          · exact va_gets hx hb hZ hS0 hown (hts _ k2) (fun _ h9 => h9) hdg (go hev0 hr hle0 hSt ⟨⟨lv, hlv, hLR⟩, y_g_any.mpr (Or.inr ⟨_, rfl⟩), hSR⟩)
        · rw [hb0, cond_false] at hokI
          have hev1 := (z_frc_eq _ _).symm.trans hev0
          obtain ⟨C, n0, d0, k1, k2⟩ := y_okG_ok hokI
          exact va_gets hx hb (hN.2.2.2.1 _ _ _ _ k1) hS0 hown (hts _ k2) (fun _ h9 => h9) hdg (go hev1 hr hle0 hSt ⟨⟨lv, hlv, hLR⟩, rfl, hSR⟩)
      | ldc_w j =>
        have hev : y_h_ldc_w j tb (y_ev hn tb fu) sp mr q x1 x2 x3 r lo st n env h k = true := hev
        unfold y_h_ldc_w at hev
        have hdg := y_dl hdg hlen rfl
        have hev_5 := (z_frc_eq _ _).symm.trans hev
        exact lv_ldcw hx hb hown (hts _ (z_w_ok hokI)) hdg (go hev_5 hr hle0 hSt ⟨⟨lv, hlv, hLR⟩, rfl, hSR⟩)
      | lconst v =>
        have hev : y_h_lconst v tb (y_ev hn tb fu) sp mr q x1 x2 x3 r lo st n env h k = true := hev
        unfold y_h_lconst at hev
        have hdg := y_dl hdg hlen rfl
        exact lv_lconst hx hb hdg rfl (go hev hr hle0 hSt ⟨⟨lv, hlv, hLR⟩, ⟨_, rfl⟩, hSR⟩)
      | aconst_null =>
        have hev : y_h_aconst_null tb (y_ev hn tb fu) sp mr q x1 x2 x3 r lo st n env h k = true := hev
        unfold y_h_aconst_null at hev
        have hdg := y_dl hdg hlen rfl
        exact lv_null hx hb hdg (go hev hr hle0 hSt ⟨⟨lv, hlv, hLR⟩, rfl, hSR⟩)
      | iload_n j =>
        have hev : y_h_iload_n j tb (y_ev hn tb fu) sp mr q x1 x2 x3 r lo st n env h k = true := hev
        unfold y_h_iload_n at hev
        have hdg := y_dl hdg hlen rfl
        obtain ⟨jj, a, v, g1, g2, hev_6⟩ := y_lkl_ok hLR hev
        obtain ⟨h1, hev_7⟩ := z_cond hev_6
        obtain ⟨x, rfl, h2⟩ := y_isI_ok h1 g2
        exact lv_iload_n hx hb hdg rfl (lv_at hlv jj g1) (go hev_7 hr hle0 hSt ⟨⟨lv, hlv, hLR⟩, g2, hSR⟩)
      | lload_n j =>
        have hev : y_h_lload_n j tb (y_ev hn tb fu) sp mr q x1 x2 x3 r lo st n env h k = true := hev
        unfold y_h_lload_n at hev
        have hdg := y_dl hdg hlen rfl
        obtain ⟨jj, a, v, g1, g2, hev_8⟩ := y_lkl_ok hLR hev
        obtain ⟨h1, hev_9⟩ := z_cond hev_8
        obtain ⟨x, rfl⟩ := y_isL_ok h1 g2
        exact lv_lload_n hx hb hdg rfl (lv_at hlv jj g1) (go hev_9 hr hle0 hSt ⟨⟨lv, hlv, hLR⟩, g2, hSR⟩)
      | aload_n j =>
        have hev : y_h_aload_n j tb (y_ev hn tb fu) sp mr q x1 x2 x3 r lo st n env h k = true := hev
        unfold y_h_aload_n at hev
        have hdg := y_dl hdg hlen rfl
        obtain ⟨jj, a, v, g1, g2, hev_10⟩ := y_lkl_ok hLR hev
        obtain ⟨h1, hev_11⟩ := z_cond hev_10
        rcases y_isR_ok h1 g2 with rfl | ⟨x, rfl⟩
        · exact lv_aload_nN hx hb hdg rfl (lv_at hlv jj g1) (go hev_11 hr hle0 hSt ⟨⟨lv, hlv, hLR⟩, g2, hSR⟩)
        · exact lv_aload_n hx hb hdg rfl (lv_at hlv jj g1) (go hev_11 hr hle0 hSt ⟨⟨lv, hlv, hLR⟩, g2, hSR⟩)
      | istore_n j =>
        have hev : y_h_istore_n j tb (y_ev hn tb fu) sp mr q x1 x2 x3 r lo st n env h k = true := hev
        unfold y_h_istore_n at hev
        have hdg := y_dl hdg hlen rfl
        obtain ⟨a, t, rfl, hev_12⟩ := y_pop1_ok hev
        obtain ⟨v, ct, rfl, g1, hSR1⟩ := y_SR_cons hSR
        obtain ⟨h1, hev_13⟩ := z_cond hev_12
        obtain ⟨h2, h3⟩ := z_and h1
        obtain ⟨x, rfl, _⟩ := y_isI_ok h2 g1
        have hev_14 := (y_dell_eq _ _ _).symm.trans hev_13
        exact lv_istore_n hx hb hdg rfl hlv (z_lt_of h3) rfl (fun ls' hl' => go hev_14 hr hle0 hSt ⟨⟨_, hl', ⟨rfl, g1⟩, y_LR_del _ hLR⟩, hSR1⟩)
      | astore_n j =>
        have hev : y_h_astore_n j tb (y_ev hn tb fu) sp mr q x1 x2 x3 r lo st n env h k = true := hev
        unfold y_h_astore_n at hev
        have hdg := y_dl hdg hlen rfl
        obtain ⟨a, t, rfl, hev_15⟩ := y_pop1_ok hev
        obtain ⟨v, ct, rfl, g1, hSR1⟩ := y_SR_cons hSR
        obtain ⟨h1, hev_16⟩ := z_cond hev_15
        obtain ⟨h2, h3⟩ := z_and h1
        have hev_17 := (y_dell_eq _ _ _).symm.trans hev_16
        rcases y_isR_ok h2 g1 with rfl | ⟨x, rfl⟩
        · exact lv_astore_nN hx hb hdg rfl hlv (z_lt_of h3) rfl (fun ls' hl' => go hev_17 hr hle0 hSt ⟨⟨_, hl', ⟨rfl, g1⟩, y_LR_del _ hLR⟩, hSR1⟩)
        · exact lv_astore_n hx hb hdg rfl hlv (z_lt_of h3) rfl (fun ls' hl' => go hev_17 hr hle0 hSt ⟨⟨_, hl', ⟨rfl, g1⟩, y_LR_del _ hLR⟩, hSR1⟩)
      | iload j =>
        have hev : y_h_iload j tb (y_ev hn tb fu) sp mr q x1 x2 x3 r lo st n env h k = true := hev
        unfold y_h_iload at hev
        have hdg := y_dl hdg hlen rfl
        obtain ⟨jj, a, v, g1, g2, hev_18⟩ := y_lkl_ok hLR hev
        obtain ⟨h1, hev_19⟩ := z_cond hev_18
        obtain ⟨x, rfl, h2⟩ := y_isI_ok h1 g2
        exact lv_iload hx hb hdg (lv_at hlv jj g1) (go hev_19 hr hle0 hSt ⟨⟨lv, hlv, hLR⟩, g2, hSR⟩)
      | lload j =>
        have hev : y_h_lload j tb (y_ev hn tb fu) sp mr q x1 x2 x3 r lo st n env h k = true := hev
        unfold y_h_lload at hev
        have hdg := y_dl hdg hlen rfl
        obtain ⟨jj, a, v, g1, g2, hev_20⟩ := y_lkl_ok hLR hev
        obtain ⟨h1, hev_21⟩ := z_cond hev_20
        obtain ⟨x, rfl⟩ := y_isL_ok h1 g2
        exact lv_lload hx hb hdg (lv_at hlv jj g1) (go hev_21 hr hle0 hSt ⟨⟨lv, hlv, hLR⟩, g2, hSR⟩)
      | aload j =>
        have hev : y_h_aload j tb (y_ev hn tb fu) sp mr q x1 x2 x3 r lo st n env h k = true := hev
        unfold y_h_aload at hev
        have hdg := y_dl hdg hlen rfl
        obtain ⟨jj, a, v, g1, g2, hev_22⟩ := y_lkl_ok hLR hev
        obtain ⟨h1, hev_23⟩ := z_cond hev_22
        rcases y_isR_ok h1 g2 with rfl | ⟨x, rfl⟩
        · exact lv_aloadN hx hb hdg (lv_at hlv jj g1) (go hev_23 hr hle0 hSt ⟨⟨lv, hlv, hLR⟩, g2, hSR⟩)
        · exact lv_aload hx hb hdg (lv_at hlv jj g1) (go hev_23 hr hle0 hSt ⟨⟨lv, hlv, hLR⟩, g2, hSR⟩)
      | istore j =>
        have hev : y_h_istore j tb (y_ev hn tb fu) sp mr q x1 x2 x3 r lo st n env h k = true := hev
        unfold y_h_istore at hev
        have hdg := y_dl hdg hlen rfl
        obtain ⟨a, t, rfl, hev_24⟩ := y_pop1_ok hev
        obtain ⟨v, ct, rfl, g1, hSR1⟩ := y_SR_cons hSR
        obtain ⟨h1, hev_25⟩ := z_cond hev_24
        obtain ⟨h2, h3⟩ := z_and h1
        obtain ⟨x, rfl, _⟩ := y_isI_ok h2 g1
        have hev_26 := (y_dell_eq _ _ _).symm.trans hev_25
        exact lv_istore hx hb hdg hlv (z_lt_of h3) rfl (fun ls' hl' => go hev_26 hr hle0 hSt ⟨⟨_, hl', ⟨rfl, g1⟩, y_LR_del _ hLR⟩, hSR1⟩)
      | astore j =>
        have hev : y_h_astore j tb (y_ev hn tb fu) sp mr q x1 x2 x3 r lo st n env h k = true := hev
        unfold y_h_astore at hev
        have hdg := y_dl hdg hlen rfl
        obtain ⟨a, t, rfl, hev_27⟩ := y_pop1_ok hev
        obtain ⟨v, ct, rfl, g1, hSR1⟩ := y_SR_cons hSR
        obtain ⟨h1, hev_28⟩ := z_cond hev_27
        obtain ⟨h2, h3⟩ := z_and h1
        have hev_29 := (y_dell_eq _ _ _).symm.trans hev_28
        rcases y_isR_ok h2 g1 with rfl | ⟨x, rfl⟩
        · exact lv_astoreN hx hb hdg hlv (z_lt_of h3) rfl (fun ls' hl' => go hev_29 hr hle0 hSt ⟨⟨_, hl', ⟨rfl, g1⟩, y_LR_del _ hLR⟩, hSR1⟩)
        · exact lv_astore hx hb hdg hlv (z_lt_of h3) rfl (fun ls' hl' => go hev_29 hr hle0 hSt ⟨⟨_, hl', ⟨rfl, g1⟩, y_LR_del _ hLR⟩, hSR1⟩)
      | iadd =>
        have hev : y_h_iadd tb (y_ev hn tb fu) sp mr q x1 x2 x3 r lo st n env h k = true := hev
        unfold y_h_iadd at hev
        have hdg := y_dl hdg hlen rfl
        obtain ⟨b1, st1, rfl, hev_30⟩ := y_pop1_ok hev
        obtain ⟨a1, t, rfl, hev_31⟩ := y_pop1_ok hev_30
        obtain ⟨v2, c1, rfl, g2, hSR1⟩ := y_SR_cons hSR
        obtain ⟨v1, c2, rfl, g1, hSR2⟩ := y_SR_cons hSR1
        obtain ⟨ii1, ii2⟩ := y_bin_int hev_31
        obtain ⟨x, rfl, i1⟩ := y_isI_ok ii1 g1
        obtain ⟨y, rfl, i2⟩ := y_isI_ok ii2 g2
        obtain ⟨sg', v, n', env', rl', w1, w2, w3, w4, w5, hev_32⟩ := y_bin_ok hev_31 hnl he hrl i1 i2
        obtain ⟨ρ', q1, q2, q3, q4⟩ : ∃ ρ' : yRo, y_rle ρ ρ' ∧ y_ad ρ' = y_ad ρ ∧ y_tg ρ' = y_tg ρ ∧ ρ' = (sg', y_ps ρ, y_ad ρ, y_tg ρ) := ⟨(sg', y_ps ρ, y_ad ρ, y_tg ρ), ⟨w1, fun _ _ q => q, fun _ _ q => q, fun _ _ q => q⟩, rfl, rfl, rfl⟩
        have hSt' : y_St cls D K tb b s A cw0 ρ' H locs cw tys n' env' (rl', h.2) := by
          have hn' : n ≤ n' := by
            rw [← hnl, ← w2]
            exact y_le_len w1
          refine ⟨hK, hP, hD, hS0, by rw [q2]; exact had, by rw [q3]; exact hW, y_KL_mono q1 hKK, hsame, by rw [q4]; exact w3, by rw [q4]; exact w4, y_fxr_mono q1 hfx, y_axr_mono q1 hax, by rw [q4]; exact w2, by rw [q4]; exact fun i z => hps i (by omega), by rw [q4]; exact hps0⟩
        have hsgE : y_sg ρ' = sg' := by rw [q4]
        rw [← hsgE] at w5
        have hle1 := y_rle_trans hle0 q1
        exact lv_iadd hx hb hdg (go hev_32 hr hle1 hSt' ⟨⟨lv, hlv, y_LR_mono (fun _ _ => y_g_mono q1) hLR⟩, y_g_int w5, y_SR_mono (fun _ _ => y_g_mono q1) hSR2⟩)
      | isub =>
        have hev : y_h_isub tb (y_ev hn tb fu) sp mr q x1 x2 x3 r lo st n env h k = true := hev
        unfold y_h_isub at hev
        have hdg := y_dl hdg hlen rfl
        obtain ⟨b1, st1, rfl, hev_33⟩ := y_pop1_ok hev
        obtain ⟨a1, t, rfl, hev_34⟩ := y_pop1_ok hev_33
        obtain ⟨v2, c1, rfl, g2, hSR1⟩ := y_SR_cons hSR
        obtain ⟨v1, c2, rfl, g1, hSR2⟩ := y_SR_cons hSR1
        obtain ⟨ii1, ii2⟩ := y_bin_int hev_34
        obtain ⟨x, rfl, i1⟩ := y_isI_ok ii1 g1
        obtain ⟨y, rfl, i2⟩ := y_isI_ok ii2 g2
        obtain ⟨sg', v, n', env', rl', w1, w2, w3, w4, w5, hev_35⟩ := y_bin_ok hev_34 hnl he hrl i1 i2
        obtain ⟨ρ', q1, q2, q3, q4⟩ : ∃ ρ' : yRo, y_rle ρ ρ' ∧ y_ad ρ' = y_ad ρ ∧ y_tg ρ' = y_tg ρ ∧ ρ' = (sg', y_ps ρ, y_ad ρ, y_tg ρ) := ⟨(sg', y_ps ρ, y_ad ρ, y_tg ρ), ⟨w1, fun _ _ q => q, fun _ _ q => q, fun _ _ q => q⟩, rfl, rfl, rfl⟩
        have hSt' : y_St cls D K tb b s A cw0 ρ' H locs cw tys n' env' (rl', h.2) := by
          have hn' : n ≤ n' := by
            rw [← hnl, ← w2]
            exact y_le_len w1
          refine ⟨hK, hP, hD, hS0, by rw [q2]; exact had, by rw [q3]; exact hW, y_KL_mono q1 hKK, hsame, by rw [q4]; exact w3, by rw [q4]; exact w4, y_fxr_mono q1 hfx, y_axr_mono q1 hax, by rw [q4]; exact w2, by rw [q4]; exact fun i z => hps i (by omega), by rw [q4]; exact hps0⟩
        have hsgE : y_sg ρ' = sg' := by rw [q4]
        rw [← hsgE] at w5
        have hle1 := y_rle_trans hle0 q1
        exact lv_isub hx hb hdg (go hev_35 hr hle1 hSt' ⟨⟨lv, hlv, y_LR_mono (fun _ _ => y_g_mono q1) hLR⟩, y_g_int w5, y_SR_mono (fun _ _ => y_g_mono q1) hSR2⟩)
      | imul =>
        have hev : y_h_imul tb (y_ev hn tb fu) sp mr q x1 x2 x3 r lo st n env h k = true := hev
        unfold y_h_imul at hev
        have hdg := y_dl hdg hlen rfl
        obtain ⟨b1, st1, rfl, hev_36⟩ := y_pop1_ok hev
        obtain ⟨a1, t, rfl, hev_37⟩ := y_pop1_ok hev_36
        obtain ⟨v2, c1, rfl, g2, hSR1⟩ := y_SR_cons hSR
        obtain ⟨v1, c2, rfl, g1, hSR2⟩ := y_SR_cons hSR1
        obtain ⟨ii1, ii2⟩ := y_bin_int hev_37
        obtain ⟨x, rfl, i1⟩ := y_isI_ok ii1 g1
        obtain ⟨y, rfl, i2⟩ := y_isI_ok ii2 g2
        obtain ⟨sg', v, n', env', rl', w1, w2, w3, w4, w5, hev_38⟩ := y_bin_ok hev_37 hnl he hrl i1 i2
        obtain ⟨ρ', q1, q2, q3, q4⟩ : ∃ ρ' : yRo, y_rle ρ ρ' ∧ y_ad ρ' = y_ad ρ ∧ y_tg ρ' = y_tg ρ ∧ ρ' = (sg', y_ps ρ, y_ad ρ, y_tg ρ) := ⟨(sg', y_ps ρ, y_ad ρ, y_tg ρ), ⟨w1, fun _ _ q => q, fun _ _ q => q, fun _ _ q => q⟩, rfl, rfl, rfl⟩
        have hSt' : y_St cls D K tb b s A cw0 ρ' H locs cw tys n' env' (rl', h.2) := by
          have hn' : n ≤ n' := by
            rw [← hnl, ← w2]
            exact y_le_len w1
          refine ⟨hK, hP, hD, hS0, by rw [q2]; exact had, by rw [q3]; exact hW, y_KL_mono q1 hKK, hsame, by rw [q4]; exact w3, by rw [q4]; exact w4, y_fxr_mono q1 hfx, y_axr_mono q1 hax, by rw [q4]; exact w2, by rw [q4]; exact fun i z => hps i (by omega), by rw [q4]; exact hps0⟩
        have hsgE : y_sg ρ' = sg' := by rw [q4]
        rw [← hsgE] at w5
        have hle1 := y_rle_trans hle0 q1
        exact lv_imul hx hb hdg (go hev_38 hr hle1 hSt' ⟨⟨lv, hlv, y_LR_mono (fun _ _ => y_g_mono q1) hLR⟩, y_g_int w5, y_SR_mono (fun _ _ => y_g_mono q1) hSR2⟩)
      | iand =>
        have hev : y_h_iand tb (y_ev hn tb fu) sp mr q x1 x2 x3 r lo st n env h k = true := hev
        unfold y_h_iand at hev
        have hdg := y_dl hdg hlen rfl
        obtain ⟨b1, st1, rfl, hev_39⟩ := y_pop1_ok hev
        obtain ⟨a1, t, rfl, hev_40⟩ := y_pop1_ok hev_39
        obtain ⟨v2, c1, rfl, g2, hSR1⟩ := y_SR_cons hSR
        obtain ⟨v1, c2, rfl, g1, hSR2⟩ := y_SR_cons hSR1
        obtain ⟨ii1, ii2⟩ := y_bin_int hev_40
        obtain ⟨x, rfl, i1⟩ := y_isI_ok ii1 g1
        obtain ⟨y, rfl, i2⟩ := y_isI_ok ii2 g2
        obtain ⟨sg', v, n', env', rl', w1, w2, w3, w4, w5, hev_41⟩ := y_bin_ok hev_40 hnl he hrl i1 i2
        obtain ⟨ρ', q1, q2, q3, q4⟩ : ∃ ρ' : yRo, y_rle ρ ρ' ∧ y_ad ρ' = y_ad ρ ∧ y_tg ρ' = y_tg ρ ∧ ρ' = (sg', y_ps ρ, y_ad ρ, y_tg ρ) := ⟨(sg', y_ps ρ, y_ad ρ, y_tg ρ), ⟨w1, fun _ _ q => q, fun _ _ q => q, fun _ _ q => q⟩, rfl, rfl, rfl⟩
        have hSt' : y_St cls D K tb b s A cw0 ρ' H locs cw tys n' env' (rl', h.2) := by
          have hn' : n ≤ n' := by
            rw [← hnl, ← w2]
            exact y_le_len w1
          refine ⟨hK, hP, hD, hS0, by rw [q2]; exact had, by rw [q3]; exact hW, y_KL_mono q1 hKK, hsame, by rw [q4]; exact w3, by rw [q4]; exact w4, y_fxr_mono q1 hfx, y_axr_mono q1 hax, by rw [q4]; exact w2, by rw [q4]; exact fun i z => hps i (by omega), by rw [q4]; exact hps0⟩
        have hsgE : y_sg ρ' = sg' := by rw [q4]
        rw [← hsgE] at w5
        have hle1 := y_rle_trans hle0 q1
        exact lv_iand hx hb hdg (go hev_41 hr hle1 hSt' ⟨⟨lv, hlv, y_LR_mono (fun _ _ => y_g_mono q1) hLR⟩, y_g_int w5, y_SR_mono (fun _ _ => y_g_mono q1) hSR2⟩)
      | ior =>
        have hev : y_h_ior tb (y_ev hn tb fu) sp mr q x1 x2 x3 r lo st n env h k = true := hev
        unfold y_h_ior at hev
        have hdg := y_dl hdg hlen rfl
        obtain ⟨b1, st1, rfl, hev_42⟩ := y_pop1_ok hev
        obtain ⟨a1, t, rfl, hev_43⟩ := y_pop1_ok hev_42
        obtain ⟨v2, c1, rfl, g2, hSR1⟩ := y_SR_cons hSR
        obtain ⟨v1, c2, rfl, g1, hSR2⟩ := y_SR_cons hSR1
        obtain ⟨ii1, ii2⟩ := y_bin_int hev_43
        obtain ⟨x, rfl, i1⟩ := y_isI_ok ii1 g1
        obtain ⟨y, rfl, i2⟩ := y_isI_ok ii2 g2
        obtain ⟨sg', v, n', env', rl', w1, w2, w3, w4, w5, hev_44⟩ := y_bin_ok hev_43 hnl he hrl i1 i2
        obtain ⟨ρ', q1, q2, q3, q4⟩ : ∃ ρ' : yRo, y_rle ρ ρ' ∧ y_ad ρ' = y_ad ρ ∧ y_tg ρ' = y_tg ρ ∧ ρ' = (sg', y_ps ρ, y_ad ρ, y_tg ρ) := ⟨(sg', y_ps ρ, y_ad ρ, y_tg ρ), ⟨w1, fun _ _ q => q, fun _ _ q => q, fun _ _ q => q⟩, rfl, rfl, rfl⟩
        have hSt' : y_St cls D K tb b s A cw0 ρ' H locs cw tys n' env' (rl', h.2) := by
          have hn' : n ≤ n' := by
            rw [← hnl, ← w2]
            exact y_le_len w1
          refine ⟨hK, hP, hD, hS0, by rw [q2]; exact had, by rw [q3]; exact hW, y_KL_mono q1 hKK, hsame, by rw [q4]; exact w3, by rw [q4]; exact w4, y_fxr_mono q1 hfx, y_axr_mono q1 hax, by rw [q4]; exact w2, by rw [q4]; exact fun i z => hps i (by omega), by rw [q4]; exact hps0⟩
        have hsgE : y_sg ρ' = sg' := by rw [q4]
        rw [← hsgE] at w5
        have hle1 := y_rle_trans hle0 q1
        exact lv_ior hx hb hdg (go hev_44 hr hle1 hSt' ⟨⟨lv, hlv, y_LR_mono (fun _ _ => y_g_mono q1) hLR⟩, y_g_int w5, y_SR_mono (fun _ _ => y_g_mono q1) hSR2⟩)
      | ixor =>
        have hev : y_h_ixor tb (y_ev hn tb fu) sp mr q x1 x2 x3 r lo st n env h k = true := hev
        unfold y_h_ixor at hev
        have hdg := y_dl hdg hlen rfl
        obtain ⟨b1, st1, rfl, hev_45⟩ := y_pop1_ok hev
        obtain ⟨a1, t, rfl, hev_46⟩ := y_pop1_ok hev_45
        obtain ⟨v2, c1, rfl, g2, hSR1⟩ := y_SR_cons hSR
        obtain ⟨v1, c2, rfl, g1, hSR2⟩ := y_SR_cons hSR1
        obtain ⟨ii1, ii2⟩ := y_bin_int hev_46
        obtain ⟨x, rfl, i1⟩ := y_isI_ok ii1 g1
        obtain ⟨y, rfl, i2⟩ := y_isI_ok ii2 g2
        obtain ⟨sg', v, n', env', rl', w1, w2, w3, w4, w5, hev_47⟩ := y_bin_ok hev_46 hnl he hrl i1 i2
        obtain ⟨ρ', q1, q2, q3, q4⟩ : ∃ ρ' : yRo, y_rle ρ ρ' ∧ y_ad ρ' = y_ad ρ ∧ y_tg ρ' = y_tg ρ ∧ ρ' = (sg', y_ps ρ, y_ad ρ, y_tg ρ) := ⟨(sg', y_ps ρ, y_ad ρ, y_tg ρ), ⟨w1, fun _ _ q => q, fun _ _ q => q, fun _ _ q => q⟩, rfl, rfl, rfl⟩
        have hSt' : y_St cls D K tb b s A cw0 ρ' H locs cw tys n' env' (rl', h.2) := by
          have hn' : n ≤ n' := by
            rw [← hnl, ← w2]
            exact y_le_len w1
          refine ⟨hK, hP, hD, hS0, by rw [q2]; exact had, by rw [q3]; exact hW, y_KL_mono q1 hKK, hsame, by rw [q4]; exact w3, by rw [q4]; exact w4, y_fxr_mono q1 hfx, y_axr_mono q1 hax, by rw [q4]; exact w2, by rw [q4]; exact fun i z => hps i (by omega), by rw [q4]; exact hps0⟩
        have hsgE : y_sg ρ' = sg' := by rw [q4]
        rw [← hsgE] at w5
        have hle1 := y_rle_trans hle0 q1
        exact lv_ixor hx hb hdg (go hev_47 hr hle1 hSt' ⟨⟨lv, hlv, y_LR_mono (fun _ _ => y_g_mono q1) hLR⟩, y_g_int w5, y_SR_mono (fun _ _ => y_g_mono q1) hSR2⟩)
      | ishl =>
        have hev : y_h_ishl tb (y_ev hn tb fu) sp mr q x1 x2 x3 r lo st n env h k = true := hev
        unfold y_h_ishl at hev
        have hdg := y_dl hdg hlen rfl
        obtain ⟨b1, st1, rfl, hev_48⟩ := y_pop1_ok hev
        obtain ⟨a1, t, rfl, hev_49⟩ := y_pop1_ok hev_48
        obtain ⟨v2, c1, rfl, g2, hSR1⟩ := y_SR_cons hSR
        obtain ⟨v1, c2, rfl, g1, hSR2⟩ := y_SR_cons hSR1
        obtain ⟨ii1, ii2⟩ := y_bin_int hev_49
        obtain ⟨x, rfl, i1⟩ := y_isI_ok ii1 g1
        obtain ⟨y, rfl, i2⟩ := y_isI_ok ii2 g2
        obtain ⟨sg', v, n', env', rl', w1, w2, w3, w4, w5, hev_50⟩ := y_bin_ok hev_49 hnl he hrl i1 i2
        obtain ⟨ρ', q1, q2, q3, q4⟩ : ∃ ρ' : yRo, y_rle ρ ρ' ∧ y_ad ρ' = y_ad ρ ∧ y_tg ρ' = y_tg ρ ∧ ρ' = (sg', y_ps ρ, y_ad ρ, y_tg ρ) := ⟨(sg', y_ps ρ, y_ad ρ, y_tg ρ), ⟨w1, fun _ _ q => q, fun _ _ q => q, fun _ _ q => q⟩, rfl, rfl, rfl⟩
        have hSt' : y_St cls D K tb b s A cw0 ρ' H locs cw tys n' env' (rl', h.2) := by
          have hn' : n ≤ n' := by
            rw [← hnl, ← w2]
            exact y_le_len w1
          refine ⟨hK, hP, hD, hS0, by rw [q2]; exact had, by rw [q3]; exact hW, y_KL_mono q1 hKK, hsame, by rw [q4]; exact w3, by rw [q4]; exact w4, y_fxr_mono q1 hfx, y_axr_mono q1 hax, by rw [q4]; exact w2, by rw [q4]; exact fun i z => hps i (by omega), by rw [q4]; exact hps0⟩
        have hsgE : y_sg ρ' = sg' := by rw [q4]
        rw [← hsgE] at w5
        have hle1 := y_rle_trans hle0 q1
        exact lv_ishl hx hb hdg (go hev_50 hr hle1 hSt' ⟨⟨lv, hlv, y_LR_mono (fun _ _ => y_g_mono q1) hLR⟩, y_g_int w5, y_SR_mono (fun _ _ => y_g_mono q1) hSR2⟩)
      | ishr =>
        have hev : y_h_ishr tb (y_ev hn tb fu) sp mr q x1 x2 x3 r lo st n env h k = true := hev
        unfold y_h_ishr at hev
        have hdg := y_dl hdg hlen rfl
        obtain ⟨b1, st1, rfl, hev_51⟩ := y_pop1_ok hev
        obtain ⟨a1, t, rfl, hev_52⟩ := y_pop1_ok hev_51
        obtain ⟨v2, c1, rfl, g2, hSR1⟩ := y_SR_cons hSR
        obtain ⟨v1, c2, rfl, g1, hSR2⟩ := y_SR_cons hSR1
        obtain ⟨ii1, ii2⟩ := y_bin_int hev_52
        obtain ⟨x, rfl, i1⟩ := y_isI_ok ii1 g1
        obtain ⟨y, rfl, i2⟩ := y_isI_ok ii2 g2
        obtain ⟨sg', v, n', env', rl', w1, w2, w3, w4, w5, hev_53⟩ := y_bin_ok hev_52 hnl he hrl i1 i2
        obtain ⟨ρ', q1, q2, q3, q4⟩ : ∃ ρ' : yRo, y_rle ρ ρ' ∧ y_ad ρ' = y_ad ρ ∧ y_tg ρ' = y_tg ρ ∧ ρ' = (sg', y_ps ρ, y_ad ρ, y_tg ρ) := ⟨(sg', y_ps ρ, y_ad ρ, y_tg ρ), ⟨w1, fun _ _ q => q, fun _ _ q => q, fun _ _ q => q⟩, rfl, rfl, rfl⟩
        have hSt' : y_St cls D K tb b s A cw0 ρ' H locs cw tys n' env' (rl', h.2) := by
          have hn' : n ≤ n' := by
            rw [← hnl, ← w2]
            exact y_le_len w1
          refine ⟨hK, hP, hD, hS0, by rw [q2]; exact had, by rw [q3]; exact hW, y_KL_mono q1 hKK, hsame, by rw [q4]; exact w3, by rw [q4]; exact w4, y_fxr_mono q1 hfx, y_axr_mono q1 hax, by rw [q4]; exact w2, by rw [q4]; exact fun i z => hps i (by omega), by rw [q4]; exact hps0⟩
        have hsgE : y_sg ρ' = sg' := by rw [q4]
        rw [← hsgE] at w5
        have hle1 := y_rle_trans hle0 q1
        exact lv_ishr hx hb hdg (go hev_53 hr hle1 hSt' ⟨⟨lv, hlv, y_LR_mono (fun _ _ => y_g_mono q1) hLR⟩, y_g_int w5, y_SR_mono (fun _ _ => y_g_mono q1) hSR2⟩)
      | iushr =>
        have hev : y_h_iushr tb (y_ev hn tb fu) sp mr q x1 x2 x3 r lo st n env h k = true := hev
        unfold y_h_iushr at hev
        have hdg := y_dl hdg hlen rfl
        obtain ⟨b1, st1, rfl, hev_54⟩ := y_pop1_ok hev
        obtain ⟨a1, t, rfl, hev_55⟩ := y_pop1_ok hev_54
        obtain ⟨v2, c1, rfl, g2, hSR1⟩ := y_SR_cons hSR
        obtain ⟨v1, c2, rfl, g1, hSR2⟩ := y_SR_cons hSR1
        obtain ⟨ii1, ii2⟩ := y_bin_int hev_55
        obtain ⟨x, rfl, i1⟩ := y_isI_ok ii1 g1
        obtain ⟨y, rfl, i2⟩ := y_isI_ok ii2 g2
        obtain ⟨sg', v, n', env', rl', w1, w2, w3, w4, w5, hev_56⟩ := y_bin_ok hev_55 hnl he hrl i1 i2
        obtain ⟨ρ', q1, q2, q3, q4⟩ : ∃ ρ' : yRo, y_rle ρ ρ' ∧ y_ad ρ' = y_ad ρ ∧ y_tg ρ' = y_tg ρ ∧ ρ' = (sg', y_ps ρ, y_ad ρ, y_tg ρ) := ⟨(sg', y_ps ρ, y_ad ρ, y_tg ρ), ⟨w1, fun _ _ q => q, fun _ _ q => q, fun _ _ q => q⟩, rfl, rfl, rfl⟩
        have hSt' : y_St cls D K tb b s A cw0 ρ' H locs cw tys n' env' (rl', h.2) := by
          have hn' : n ≤ n' := by
            rw [← hnl, ← w2]
            exact y_le_len w1
          refine ⟨hK, hP, hD, hS0, by rw [q2]; exact had, by rw [q3]; exact hW, y_KL_mono q1 hKK, hsame, by rw [q4]; exact w3, by rw [q4]; exact w4, y_fxr_mono q1 hfx, y_axr_mono q1 hax, by rw [q4]; exact w2, by rw [q4]; exact fun i z => hps i (by omega), by rw [q4]; exact hps0⟩
        have hsgE : y_sg ρ' = sg' := by rw [q4]
        rw [← hsgE] at w5
        have hle1 := y_rle_trans hle0 q1
        exact lv_iushr hx hb hdg rfl (go hev_56 hr hle1 hSt' ⟨⟨lv, hlv, y_LR_mono (fun _ _ => y_g_mono q1) hLR⟩, y_g_int w5, y_SR_mono (fun _ _ => y_g_mono q1) hSR2⟩)
      | iinc j v =>
        have hev : y_h_iinc j v tb (y_ev hn tb fu) sp mr q x1 x2 x3 r lo st n env h k = true := hev
        unfold y_h_iinc at hev
        have hdg := y_dl hdg hlen rfl
        obtain ⟨jj, a, v1, g1, g2, hev_57⟩ := y_lkl_ok hLR hev
        obtain ⟨h1, hev_58⟩ := z_cond hev_57
        obtain ⟨h1, h2⟩ := z_and h1
        obtain ⟨x, rfl, i1⟩ := y_isI_ok h1 g2
        have hev_59 := (z_frc_eq _ _).symm.trans hev_58
        have i2 : y_gi (y_sg ρ) (.inl (z_un (Int32.ofInt v))) (Int32.ofInt v) := (z_nI_un _).symm
        obtain ⟨sg', v, n', env', rl', w1, w2, w3, w4, w5, hev_60⟩ := y_bin_ok hev_59 hnl he hrl i1 i2
        obtain ⟨ρ', q1, q2, q3, q4⟩ : ∃ ρ' : yRo, y_rle ρ ρ' ∧ y_ad ρ' = y_ad ρ ∧ y_tg ρ' = y_tg ρ ∧ ρ' = (sg', y_ps ρ, y_ad ρ, y_tg ρ) := ⟨(sg', y_ps ρ, y_ad ρ, y_tg ρ), ⟨w1, fun _ _ q => q, fun _ _ q => q, fun _ _ q => q⟩, rfl, rfl, rfl⟩
        have hSt' : y_St cls D K tb b s A cw0 ρ' H locs cw tys n' env' (rl', h.2) := by
          have hn' : n ≤ n' := by
            rw [← hnl, ← w2]
            exact y_le_len w1
          refine ⟨hK, hP, hD, hS0, by rw [q2]; exact had, by rw [q3]; exact hW, y_KL_mono q1 hKK, hsame, by rw [q4]; exact w3, by rw [q4]; exact w4, y_fxr_mono q1 hfx, y_axr_mono q1 hax, by rw [q4]; exact w2, by rw [q4]; exact fun i z => hps i (by omega), by rw [q4]; exact hps0⟩
        have hsgE : y_sg ρ' = sg' := by rw [q4]
        rw [← hsgE] at w5
        have hle1 := y_rle_trans hle0 q1
        have hev_61 := (y_dell_eq _ _ _).symm.trans hev_60
        exact lv_iinc hx hb hdg hlv g1 rfl (z_lt_of h2) rfl (fun ls' hl' => go hev_61 hr hle1 hSt' ⟨⟨_, hl', ⟨rfl, y_g_int w5⟩, y_LR_del _ (y_LR_mono (fun _ _ => y_g_mono q1) hLR)⟩, y_SR_mono (fun _ _ => y_g_mono q1) hSR⟩)
      | irem =>
        have hev : y_h_irem tb (y_ev hn tb fu) sp mr q x1 x2 x3 r lo st n env h k = true := hev
        unfold y_h_irem at hev
        have hdg := y_dl hdg hlen rfl
        obtain ⟨b1, st1, rfl, hev_62⟩ := y_pop1_ok hev
        obtain ⟨a1, t, rfl, hev_63⟩ := y_pop1_ok hev_62
        obtain ⟨v2, c1, rfl, g2, hSR1⟩ := y_SR_cons hSR
        obtain ⟨v1, c2, rfl, g1, hSR2⟩ := y_SR_cons hSR1
        obtain ⟨y, rfl, i2⟩ := y_isI_ok (y_dm_int hev_63) g2
        obtain ⟨E, d1, hev_64⟩ := y_dm_ok hev_63 he i2
        obtain ⟨d2, hev_65⟩ := z_cond hev_64
        obtain ⟨ii1, ii2⟩ := y_bin_int hev_65
        obtain ⟨x, rfl, i1⟩ := y_isI_ok ii1 g1
        have hne : ¬ y = 0 := by
          intro z
          subst z
          have := y_sub_ok d2 d1
          rcases y_in_cons.mp this with w | w
          · exact absurd w.2 (by decide)
          · rcases y_in_cons.mp w with w | w
            · exact absurd w.1 (by decide)
            · exact y_in_nil w
        obtain ⟨sg', v, n', env', rl', w1, w2, w3, w4, w5, hev_66⟩ := y_bin_ok hev_65 hnl he hrl i1 i2
        obtain ⟨ρ', q1, q2, q3, q4⟩ : ∃ ρ' : yRo, y_rle ρ ρ' ∧ y_ad ρ' = y_ad ρ ∧ y_tg ρ' = y_tg ρ ∧ ρ' = (sg', y_ps ρ, y_ad ρ, y_tg ρ) := ⟨(sg', y_ps ρ, y_ad ρ, y_tg ρ), ⟨w1, fun _ _ q => q, fun _ _ q => q, fun _ _ q => q⟩, rfl, rfl, rfl⟩
        have hSt' : y_St cls D K tb b s A cw0 ρ' H locs cw tys n' env' (rl', h.2) := by
          have hn' : n ≤ n' := by
            rw [← hnl, ← w2]
            exact y_le_len w1
          refine ⟨hK, hP, hD, hS0, by rw [q2]; exact had, by rw [q3]; exact hW, y_KL_mono q1 hKK, hsame, by rw [q4]; exact w3, by rw [q4]; exact w4, y_fxr_mono q1 hfx, y_axr_mono q1 hax, by rw [q4]; exact w2, by rw [q4]; exact fun i z => hps i (by omega), by rw [q4]; exact hps0⟩
        have hsgE : y_sg ρ' = sg' := by rw [q4]
        rw [← hsgE] at w5
        have hle1 := y_rle_trans hle0 q1
        exact lv_irem hx hb hdg hne (go hev_66 hr hle1 hSt' ⟨⟨lv, hlv, y_LR_mono (fun _ _ => y_g_mono q1) hLR⟩, y_g_int w5, y_SR_mono (fun _ _ => y_g_mono q1) hSR2⟩)
      | idiv =>
        have hev : y_h_idiv tb (y_ev hn tb fu) sp mr q x1 x2 x3 r lo st n env h k = true := hev
        unfold y_h_idiv at hev
        have hdg := y_dl hdg hlen rfl
        obtain ⟨b1, st1, rfl, hev_67⟩ := y_pop1_ok hev
        obtain ⟨a1, t, rfl, hev_68⟩ := y_pop1_ok hev_67
        obtain ⟨v2, c1, rfl, g2, hSR1⟩ := y_SR_cons hSR
        obtain ⟨v1, c2, rfl, g1, hSR2⟩ := y_SR_cons hSR1
        obtain ⟨y, rfl, i2⟩ := y_isI_ok (y_dm_int hev_68) g2
        obtain ⟨E, d1, hev_69⟩ := y_dm_ok hev_68 he i2
        obtain ⟨d2, hev_70⟩ := z_cond hev_69
        obtain ⟨ii1, ii2⟩ := y_bin_int hev_70
        obtain ⟨x, rfl, i1⟩ := y_isI_ok ii1 g1
        have hne : ¬ y = 0 := by
          intro z
          subst z
          have := y_sub_ok d2 d1
          rcases y_in_cons.mp this with w | w
          · exact absurd w.2 (by decide)
          · rcases y_in_cons.mp w with w | w
            · exact absurd w.1 (by decide)
            · exact y_in_nil w
        obtain ⟨sg', v, n', env', rl', w1, w2, w3, w4, w5, hev_71⟩ := y_bin_ok hev_70 hnl he hrl i1 i2
        obtain ⟨ρ', q1, q2, q3, q4⟩ : ∃ ρ' : yRo, y_rle ρ ρ' ∧ y_ad ρ' = y_ad ρ ∧ y_tg ρ' = y_tg ρ ∧ ρ' = (sg', y_ps ρ, y_ad ρ, y_tg ρ) := ⟨(sg', y_ps ρ, y_ad ρ, y_tg ρ), ⟨w1, fun _ _ q => q, fun _ _ q => q, fun _ _ q => q⟩, rfl, rfl, rfl⟩
        have hSt' : y_St cls D K tb b s A cw0 ρ' H locs cw tys n' env' (rl', h.2) := by
          have hn' : n ≤ n' := by
            rw [← hnl, ← w2]
            exact y_le_len w1
          refine ⟨hK, hP, hD, hS0, by rw [q2]; exact had, by rw [q3]; exact hW, y_KL_mono q1 hKK, hsame, by rw [q4]; exact w3, by rw [q4]; exact w4, y_fxr_mono q1 hfx, y_axr_mono q1 hax, by rw [q4]; exact w2, by rw [q4]; exact fun i z => hps i (by omega), by rw [q4]; exact hps0⟩
        have hsgE : y_sg ρ' = sg' := by rw [q4]
        rw [← hsgE] at w5
        have hle1 := y_rle_trans hle0 q1
        exact lv_idiv hx hb hdg hne (go hev_71 hr hle1 hSt' ⟨⟨lv, hlv, y_LR_mono (fun _ _ => y_g_mono q1) hLR⟩, y_g_int w5, y_SR_mono (fun _ _ => y_g_mono q1) hSR2⟩)
      | i2b =>
        have hev : y_h_i2b tb (y_ev hn tb fu) sp mr q x1 x2 x3 r lo st n env h k = true := hev
        unfold y_h_i2b at hev
        have hdg := y_dl hdg hlen rfl
        obtain ⟨a1, t, rfl, hev_72⟩ := y_pop1_ok hev
        obtain ⟨v1, c2, rfl, g1, hSR2⟩ := y_SR_cons hSR
        obtain ⟨ii1, ii2⟩ := y_bin_int hev_72
        obtain ⟨x, rfl, i1⟩ := y_isI_ok ii1 g1
        have i2 : y_gi (y_sg ρ) (.inl 0) (nI 0) := rfl
        obtain ⟨sg', v, n', env', rl', w1, w2, w3, w4, w5, hev_73⟩ := y_bin_ok hev_72 hnl he hrl i1 i2
        obtain ⟨ρ', q1, q2, q3, q4⟩ : ∃ ρ' : yRo, y_rle ρ ρ' ∧ y_ad ρ' = y_ad ρ ∧ y_tg ρ' = y_tg ρ ∧ ρ' = (sg', y_ps ρ, y_ad ρ, y_tg ρ) := ⟨(sg', y_ps ρ, y_ad ρ, y_tg ρ), ⟨w1, fun _ _ q => q, fun _ _ q => q, fun _ _ q => q⟩, rfl, rfl, rfl⟩
        have hSt' : y_St cls D K tb b s A cw0 ρ' H locs cw tys n' env' (rl', h.2) := by
          have hn' : n ≤ n' := by
            rw [← hnl, ← w2]
            exact y_le_len w1
          refine ⟨hK, hP, hD, hS0, by rw [q2]; exact had, by rw [q3]; exact hW, y_KL_mono q1 hKK, hsame, by rw [q4]; exact w3, by rw [q4]; exact w4, y_fxr_mono q1 hfx, y_axr_mono q1 hax, by rw [q4]; exact w2, by rw [q4]; exact fun i z => hps i (by omega), by rw [q4]; exact hps0⟩
        have hsgE : y_sg ρ' = sg' := by rw [q4]
        rw [← hsgE] at w5
        have hle1 := y_rle_trans hle0 q1
        exact lv_i2b hx hb hdg rfl (go hev_73 hr hle1 hSt' ⟨⟨lv, hlv, y_LR_mono (fun _ _ => y_g_mono q1) hLR⟩, y_g_int w5, y_SR_mono (fun _ _ => y_g_mono q1) hSR2⟩)
      | i2c =>
        have hev : y_h_i2c tb (y_ev hn tb fu) sp mr q x1 x2 x3 r lo st n env h k = true := hev
        unfold y_h_i2c at hev
        have hdg := y_dl hdg hlen rfl
        obtain ⟨a1, t, rfl, hev_74⟩ := y_pop1_ok hev
        obtain ⟨v1, c2, rfl, g1, hSR2⟩ := y_SR_cons hSR
        obtain ⟨ii1, ii2⟩ := y_bin_int hev_74
        obtain ⟨x, rfl, i1⟩ := y_isI_ok ii1 g1
        have i2 : y_gi (y_sg ρ) (.inl 0) (nI 0) := rfl
        obtain ⟨sg', v, n', env', rl', w1, w2, w3, w4, w5, hev_75⟩ := y_bin_ok hev_74 hnl he hrl i1 i2
        obtain ⟨ρ', q1, q2, q3, q4⟩ : ∃ ρ' : yRo, y_rle ρ ρ' ∧ y_ad ρ' = y_ad ρ ∧ y_tg ρ' = y_tg ρ ∧ ρ' = (sg', y_ps ρ, y_ad ρ, y_tg ρ) := ⟨(sg', y_ps ρ, y_ad ρ, y_tg ρ), ⟨w1, fun _ _ q => q, fun _ _ q => q, fun _ _ q => q⟩, rfl, rfl, rfl⟩
        have hSt' : y_St cls D K tb b s A cw0 ρ' H locs cw tys n' env' (rl', h.2) := by
          have hn' : n ≤ n' := by
            rw [← hnl, ← w2]
            exact y_le_len w1
          refine ⟨hK, hP, hD, hS0, by rw [q2]; exact had, by rw [q3]; exact hW, y_KL_mono q1 hKK, hsame, by rw [q4]; exact w3, by rw [q4]; exact w4, y_fxr_mono q1 hfx, y_axr_mono q1 hax, by rw [q4]; exact w2, by rw [q4]; exact fun i z => hps i (by omega), by rw [q4]; exact hps0⟩
        have hsgE : y_sg ρ' = sg' := by rw [q4]
        rw [← hsgE] at w5
        have hle1 := y_rle_trans hle0 q1
        exact lv_i2c hx hb hdg rfl (go hev_75 hr hle1 hSt' ⟨⟨lv, hlv, y_LR_mono (fun _ _ => y_g_mono q1) hLR⟩, y_g_int w5, y_SR_mono (fun _ _ => y_g_mono q1) hSR2⟩)
      | i2l =>
        have hev : y_h_i2l tb (y_ev hn tb fu) sp mr q x1 x2 x3 r lo st n env h k = true := hev
        unfold y_h_i2l at hev
        have hdg := y_dl hdg hlen rfl
        obtain ⟨a1, t, rfl, hev_76⟩ := y_pop1_ok hev
        obtain ⟨v1, c2, rfl, g1, hSR2⟩ := y_SR_cons hSR
        obtain ⟨h1, hev_77⟩ := z_cond hev_76
        obtain ⟨x, rfl, i1⟩ := y_isI_ok h1 g1
        exact lv_i2l hx hb hdg rfl (go hev_77 hr hle0 hSt ⟨⟨lv, hlv, hLR⟩, ⟨_, rfl⟩, hSR2⟩)
      | l2i =>
        have hev : y_h_l2i tb (y_ev hn tb fu) sp mr q x1 x2 x3 r lo st n env h k = true := hev
        unfold y_h_l2i at hev
        have hdg := y_dl hdg hlen rfl
        obtain ⟨a1, t, rfl, hev_78⟩ := y_pop1_ok hev
        obtain ⟨v1, c2, rfl, g1, hSR2⟩ := y_SR_cons hSR
        obtain ⟨h1, hev_79⟩ := z_cond hev_78
        obtain ⟨x, rfl⟩ := y_isL_ok h1 g1
        have HW : y_tv tb (y_ad ρ) (y_tg ρ) (.inl y_top) (.int x.toInt32) := ⟨_, rfl, y_in_top _⟩
        obtain ⟨ρ', v, n', env', q1, q2, q3, q4, q5, q6, q7, hev_80⟩ := y_nv_ok (b := b) hev_79 hnl hps hps0 he HW
        have hSt' : y_St cls D K tb b s A cw0 ρ' H locs cw tys n' env' h := ⟨hK, hP, hD, hS0, by rw [q2]; exact had, by rw [q3]; exact hW, y_KL_mono q1 hKK, hsame, q6, y_rrel_mono q1.1 hrl, y_fxr_mono q1 hfx, y_axr_mono q1 hax, q4, q5.1, q5.2⟩
        have hle1 := y_rle_trans hle0 q1
        exact lv_l2i hx hb hdg rfl (go hev_80 hr hle1 hSt' ⟨⟨lv, hlv, y_LR_mono (fun _ _ => y_g_mono q1) hLR⟩, q7, y_SR_mono (fun _ _ => y_g_mono q1) hSR2⟩)
      | lor =>
        have hev : y_h_lor tb (y_ev hn tb fu) sp mr q x1 x2 x3 r lo st n env h k = true := hev
        unfold y_h_lor at hev
        have hdg := y_dl hdg hlen rfl
        obtain ⟨b1, st1, rfl, hev_81⟩ := y_pop1_ok hev
        obtain ⟨a1, t, rfl, hev_82⟩ := y_pop1_ok hev_81
        obtain ⟨v2, c1, rfl, g2, hSR1⟩ := y_SR_cons hSR
        obtain ⟨v1, c2, rfl, g1, hSR2⟩ := y_SR_cons hSR1
        obtain ⟨h1, hev_83⟩ := z_cond hev_82
        obtain ⟨h1, h2⟩ := z_and h1
        obtain ⟨x, rfl⟩ := y_isL_ok h1 g1
        obtain ⟨y, rfl⟩ := y_isL_ok h2 g2
        exact lv_lor hx hb hdg (go hev_83 hr hle0 hSt ⟨⟨lv, hlv, hLR⟩, ⟨_, rfl⟩, hSR2⟩)
      | land =>
        have hev : y_h_land tb (y_ev hn tb fu) sp mr q x1 x2 x3 r lo st n env h k = true := hev
        unfold y_h_land at hev
        have hdg := y_dl hdg hlen rfl
        obtain ⟨b1, st1, rfl, hev_84⟩ := y_pop1_ok hev
        obtain ⟨a1, t, rfl, hev_85⟩ := y_pop1_ok hev_84
        obtain ⟨v2, c1, rfl, g2, hSR1⟩ := y_SR_cons hSR
        obtain ⟨v1, c2, rfl, g1, hSR2⟩ := y_SR_cons hSR1
        obtain ⟨h1, hev_86⟩ := z_cond hev_85
        obtain ⟨h1, h2⟩ := z_and h1
        obtain ⟨x, rfl⟩ := y_isL_ok h1 g1
        obtain ⟨y, rfl⟩ := y_isL_ok h2 g2
        exact lv_land hx hb hdg (go hev_86 hr hle0 hSt ⟨⟨lv, hlv, hLR⟩, ⟨_, rfl⟩, hSR2⟩)
      | lshl =>
        have hev : y_h_lshl tb (y_ev hn tb fu) sp mr q x1 x2 x3 r lo st n env h k = true := hev
        unfold y_h_lshl at hev
        have hdg := y_dl hdg hlen rfl
        obtain ⟨b1, st1, rfl, hev_87⟩ := y_pop1_ok hev
        obtain ⟨a1, t, rfl, hev_88⟩ := y_pop1_ok hev_87
        obtain ⟨v2, c1, rfl, g2, hSR1⟩ := y_SR_cons hSR
        obtain ⟨v1, c2, rfl, g1, hSR2⟩ := y_SR_cons hSR1
        obtain ⟨h1, hev_89⟩ := z_cond hev_88
        obtain ⟨h1, h2⟩ := z_and h1
        obtain ⟨x, rfl⟩ := y_isL_ok h1 g1
        obtain ⟨y, rfl, _⟩ := y_isI_ok h2 g2
        exact lv_lshl hx hb hdg rfl (go hev_89 hr hle0 hSt ⟨⟨lv, hlv, hLR⟩, ⟨_, rfl⟩, hSR2⟩)
      | lshr =>
        have hev : y_h_lshr tb (y_ev hn tb fu) sp mr q x1 x2 x3 r lo st n env h k = true := hev
        unfold y_h_lshr at hev
        have hdg := y_dl hdg hlen rfl
        obtain ⟨b1, st1, rfl, hev_90⟩ := y_pop1_ok hev
        obtain ⟨a1, t, rfl, hev_91⟩ := y_pop1_ok hev_90
        obtain ⟨v2, c1, rfl, g2, hSR1⟩ := y_SR_cons hSR
        obtain ⟨v1, c2, rfl, g1, hSR2⟩ := y_SR_cons hSR1
        obtain ⟨h1, hev_92⟩ := z_cond hev_91
        obtain ⟨h1, h2⟩ := z_and h1
        obtain ⟨x, rfl⟩ := y_isL_ok h1 g1
        obtain ⟨y, rfl, _⟩ := y_isI_ok h2 g2
        exact lv_lshr hx hb hdg rfl (go hev_92 hr hle0 hSt ⟨⟨lv, hlv, hLR⟩, ⟨_, rfl⟩, hSR2⟩)
      | lushr =>
        have hev : y_h_lushr tb (y_ev hn tb fu) sp mr q x1 x2 x3 r lo st n env h k = true := hev
        unfold y_h_lushr at hev
        have hdg := y_dl hdg hlen rfl
        obtain ⟨b1, st1, rfl, hev_93⟩ := y_pop1_ok hev
        obtain ⟨a1, t, rfl, hev_94⟩ := y_pop1_ok hev_93
        obtain ⟨v2, c1, rfl, g2, hSR1⟩ := y_SR_cons hSR
        obtain ⟨v1, c2, rfl, g1, hSR2⟩ := y_SR_cons hSR1
        obtain ⟨h1, hev_95⟩ := z_cond hev_94
        obtain ⟨h1, h2⟩ := z_and h1
        obtain ⟨x, rfl⟩ := y_isL_ok h1 g1
        obtain ⟨y, rfl, _⟩ := y_isI_ok h2 g2
        exact lv_lushr hx hb hdg rfl (go hev_95 hr hle0 hSt ⟨⟨lv, hlv, hLR⟩, ⟨_, rfl⟩, hSR2⟩)
      | dup =>
        have hev : y_h_dup tb (y_ev hn tb fu) sp mr q x1 x2 x3 r lo st n env h k = true := hev
        unfold y_h_dup at hev
        have hdg := y_dl hdg hlen rfl
        obtain ⟨a1, t, rfl, hev_96⟩ := y_pop1_ok hev
        obtain ⟨v1, c2, rfl, g1, hSR2⟩ := y_SR_cons hSR
        obtain ⟨h1, hev_97⟩ := z_cond hev_96
        have h1 : y_isL a1 = false := by cases hz : y_isL a1 with | false => rfl | true => rw [hz] at h1; cases h1
        exact lv_dup hx hb hdg (y_cat1 h1 g1) (go hev_97 hr hle0 hSt ⟨⟨lv, hlv, hLR⟩, g1, g1, hSR2⟩)
      | pop =>
        have hev : y_h_pop tb (y_ev hn tb fu) sp mr q x1 x2 x3 r lo st n env h k = true := hev
        unfold y_h_pop at hev
        have hdg := y_dl hdg hlen rfl
        obtain ⟨a1, t, rfl, hev_98⟩ := y_pop1_ok hev
        obtain ⟨v1, c2, rfl, g1, hSR2⟩ := y_SR_cons hSR
        obtain ⟨h1, hev_99⟩ := z_cond hev_98
        have h1 : y_isL a1 = false := by cases hz : y_isL a1 with | false => rfl | true => rw [hz] at h1; cases h1
        exact lv_pop hx hb hdg (y_cat1 h1 g1) (go hev_99 hr hle0 hSt ⟨⟨lv, hlv, hLR⟩, hSR2⟩)
      | getfield j =>
        have hev : y_h_getfield j tb (y_ev hn tb fu) sp mr q x1 x2 x3 r lo st n env h k = true := hev
        unfold y_h_getfield at hev
        have hdg := y_dl hdg hlen rfl
        obtain ⟨o1, t, rfl, hev_100⟩ := y_pop1_ok hev
        obtain ⟨v1, c2, rfl, g1, hSR2⟩ := y_SR_cons hSR
        have hokI : cond (Nat.beq x1 99) (cond (Nat.beq x2 0) (z_w wt x3 (.fieldLink (y_y mr).cls j "java/lang/String" "value" "[B")) (z_w wt x3 (.fieldLink (y_y mr).cls j "java/lang/String" "coder" "B"))) (match cls[x1]? with
            | some c => and (Nat.blt x2 c.2.2) (z_w wt x3 (.fieldLink (y_y mr).cls j (c.2.1 x2).1 (c.2.1 x2).2.1 (c.2.1 x2).2.2.1))
            | none => false) = true := hokI
        rcases y_bool hev_100 with ⟨hb0, hev0⟩ | ⟨hb0, hev0⟩
        · rw [hb0, cond_true] at hokI
          obtain ⟨mm, rfl, hmm, hev1⟩ := y_txt_ok hev0
          have g2 := (y_g_tx (y_tx3 hmm).1).mp g1
          subst g2
          obtain ⟨byt, hE⟩ := hN.2.2.1 mm hmm
          obtain ⟨e1, e2, e3, e4⟩ := hE.1 0 (by omega)
          rcases y_bool hev1 with ⟨hb2, hev2⟩ | ⟨hb2, hev2⟩
          · rw [hb2, cond_true] at hokI
            have hev3 := (z_frc_eq _ _).symm.trans hev2
            exact vk_getf hx hb e3 hS0 hown (hts _ (z_w_ok hokI)) (fun _ h9 => h9) hdg (go hev3 hr hle0 hSt ⟨⟨lv, hlv, hLR⟩, (y_g_tx (by have := (y_tx3 hmm).1; omega)).mpr (by rw [(y_tx3 hmm).2]), hSR2⟩)
          · rw [hb2, cond_false] at hokI
            exact vk_getf hx hb e2 hS0 hown (hts _ (z_w_ok hokI)) (fun _ h9 => h9) hdg (go hev2 hr hle0 hSt ⟨⟨lv, hlv, hLR⟩, congrArg Value.int (by decide : (0 : Int32) = nI 0), hSR2⟩)
        · rw [hb0, cond_false] at hokI
          have hev_101 := hev0
          obtain ⟨kd, i, pp, a, t1, t2, rfl, t4, t5, hev_102⟩ := y_rcv_ok hev_101 he g1
          obtain ⟨⟨C, T, N⟩, k1, k2, k3⟩ := z_fl_ok (tb := wt) (own := (y_y mr).cls) (x3 := x3) (j := j) hokI
          obtain ⟨dy, hdy, _⟩ := hW.2.1
          have hk0 := y_obj_0 hev_102
          obtain ⟨ts, ty, o1', o2', hev_103⟩ := y_obj_ok hev_102 t1 t4 hdy
          obtain ⟨vs, r1, r2⟩ := y_cobj hW had t2 o1'
          obtain ⟨w, r3, r4⟩ := y_TL_get r2 o2'
          rw [← had] at r4
          rcases y_ff_ok hev_103 hfx with ⟨v, p', a', ci', vs', w', f0, f1, f2, f3, f4, hevA⟩ | hevB
          · rw [t1] at f1
            cases f1
            rw [r1] at f2
            cases f2
            rw [r3] at f3
            cases f3
            exact va_get (D := D) (ci := x1) (C := C) (T := T) (N := N) hx hb hts (hA.1 x1 _ k1).1 hown hK hP pp r1 k1 x2 k2 (hts _ k3) (fun _ h9 => h9) r3 hdg (go hevA hr hle0 hSt ⟨⟨lv, hlv, hLR⟩, f4, hSR2⟩)
          · obtain ⟨ρ', v, n', env', q1, q2, q3, q4, q5, q6, q7, hevC⟩ := y_nv_ok (b := b) hevB hnl hps hps0 he r4
            have hfx' : y_fxr tb ρ' b cw ((kd, i, x2, v) :: h.2.1) := by
              intro qq hqq
              rcases List.mem_cons.mp hqq with rfl | hqq
              · exact ⟨fun z => hk0 z, pp, a, x1, vs, w, y_at_mono q1 t1, r1, r3, q7⟩
              · exact y_fxr_mono q1 hfx qq hqq
            have hSt' : y_St cls D K tb b s A cw0 ρ' H locs cw tys n' env' (h.1, (kd, i, x2, v) :: h.2.1, h.2.2) := ⟨hK, hP, hD, hS0, by rw [q2]; exact had, by rw [q3]; exact hW, y_KL_mono q1 hKK, hsame, q6, y_rrel_mono q1.1 hrl, hfx', y_axr_mono q1 hax, q4, q5.1, q5.2⟩
            exact va_get (D := D) (ci := x1) (C := C) (T := T) (N := N) hx hb hts (hA.1 x1 _ k1).1 hown hK hP pp r1 k1 x2 k2 (hts _ k3) (fun _ h9 => h9) r3 hdg (go hevC hr (y_rle_trans hle0 q1) hSt' ⟨⟨lv, hlv, y_LR_mono (fun _ _ => y_g_mono q1) hLR⟩, q7, y_SR_mono (fun _ _ => y_g_mono q1) hSR2⟩)
      | dup2 =>
        have hev : y_h_dup2 tb (y_ev hn tb fu) sp mr q x1 x2 x3 r lo st n env h k = true := hev
        unfold y_h_dup2 at hev
        have hdg := y_dl hdg hlen rfl
        obtain ⟨b1, st1, rfl, hev_104⟩ := y_pop1_ok hev
        obtain ⟨a1, t, rfl, hev_105⟩ := y_pop1_ok hev_104
        obtain ⟨v2, c1, rfl, g2, hSR1⟩ := y_SR_cons hSR
        obtain ⟨v1, c2, rfl, g1, hSR2⟩ := y_SR_cons hSR1
        obtain ⟨h1, hev_106⟩ := z_cond hev_105
        obtain ⟨h1, h2⟩ := z_and h1
        have h1 : y_isL a1 = false := by cases hz : y_isL a1 with | false => rfl | true => rw [hz] at h1; cases h1
        have h2 : y_isL b1 = false := by cases hz : y_isL b1 with | false => rfl | true => rw [hz] at h2; cases h2
        exact lv_dup2_11 hx hb hdg (y_cat1 h2 g2) (y_cat1 h1 g1) (go hev_106 hr hle0 hSt ⟨⟨lv, hlv, hLR⟩, g2, g1, g2, g1, hSR2⟩)
      | lcmp =>
        have hev : y_h_lcmp tb (y_ev hn tb fu) sp mr q x1 x2 x3 r lo st n env h k = true := hev
        unfold y_h_lcmp at hev
        have hdg := y_dl hdg hlen rfl
        obtain ⟨b1, st1, rfl, hev_107⟩ := y_pop1_ok hev
        obtain ⟨a1, t, rfl, hev_108⟩ := y_pop1_ok hev_107
        obtain ⟨v2, c1, rfl, g2, hSR1⟩ := y_SR_cons hSR
        obtain ⟨v1, c2, rfl, g1, hSR2⟩ := y_SR_cons hSR1
        obtain ⟨h1, hev_109⟩ := z_cond hev_108
        obtain ⟨h1, h2⟩ := z_and h1
        obtain ⟨x, rfl⟩ := y_isL_ok h1 g1
        obtain ⟨y, rfl⟩ := y_isL_ok h2 g2
        have HW : y_tv tb (y_ad ρ) (y_tg ρ) (.inl [(2147483647, 2147483649)]) (.int (lg_cmp x y)) := ⟨_, rfl, y_cmpb x y⟩
        obtain ⟨ρ', v, n', env', q1, q2, q3, q4, q5, q6, q7, hev_110⟩ := y_nv_ok (b := b) hev_109 hnl hps hps0 he HW
        have hSt' : y_St cls D K tb b s A cw0 ρ' H locs cw tys n' env' h := ⟨hK, hP, hD, hS0, by rw [q2]; exact had, by rw [q3]; exact hW, y_KL_mono q1 hKK, hsame, q6, y_rrel_mono q1.1 hrl, y_fxr_mono q1 hfx, y_axr_mono q1 hax, q4, q5.1, q5.2⟩
        have hle1 := y_rle_trans hle0 q1
        exact W.lcmp hx hb hdg (go hev_110 hr hle1 hSt' ⟨⟨lv, hlv, y_LR_mono (fun _ _ => y_g_mono q1) hLR⟩, q7, y_SR_mono (fun _ _ => y_g_mono q1) hSR2⟩)
      | areturn =>
        have hev : y_h_areturn tb (y_ev hn tb fu) sp mr q x1 x2 x3 r lo st n env h k = true := hev
        unfold y_h_areturn at hev
        have hdg := y_dl hdg hlen rfl
        obtain ⟨a, t, rfl, hev_111⟩ := y_pop1_ok hev
        obtain ⟨h1, hev_112⟩ := z_cond hev_111
        obtain ⟨h1, h2⟩ := z_and h1
        obtain ⟨v1, c2, rfl, g1, hSR1⟩ := y_SR_cons hSR
        cases t with
        | cons _ _ => cases h1
        | nil =>
          have hc2 := y_SR_nil hSR1
          subst hc2
          refine hend ρ H locs cw tys ls _ q n env h (some a) hle0 hSt hev_112 (Or.inr (Or.inr (Or.inl ?_)))
          unfold y_rto at h2
          split at h2
          · rename_i nn hrt
            exact ⟨a, v1, _, rfl, rfl, g1, y_isO_ok h2 g1, hrt, Or.inl ⟨_, rfl⟩, hdg⟩
          · rename_i nn hrt
            exact ⟨a, v1, _, rfl, rfl, g1, y_isO_ok h2 g1, hrt, Or.inr ⟨_, rfl⟩, hdg⟩
          · cases h2
      | lreturn =>
        have hev : y_h_lreturn tb (y_ev hn tb fu) sp mr q x1 x2 x3 r lo st n env h k = true := hev
        unfold y_h_lreturn at hev
        have hdg := y_dl hdg hlen rfl
        obtain ⟨a, t, rfl, hev_113⟩ := y_pop1_ok hev
        obtain ⟨h1, hev_114⟩ := z_cond hev_113
        obtain ⟨h1, h2⟩ := z_and h1
        obtain ⟨h2, h3⟩ := z_and h2
        obtain ⟨v1, c2, rfl, g1, hSR1⟩ := y_SR_cons hSR
        cases t with
        | cons _ _ => cases h1
        | nil =>
          have hc2 := y_SR_nil hSR1
          subst hc2
          obtain ⟨x, rfl⟩ := y_isL_ok h2 g1
          refine hend ρ H locs cw tys ls _ q n env h (some a) hle0 hSt hev_114 (Or.inr (Or.inr (Or.inr ⟨a, x, rfl, rfl, g1, ?_, hdg⟩)))
          unfold y_rtl at h3
          split at h3
          · rename_i hrt
            exact hrt
          · cases h3
      | putfield j =>
        have hev : y_h_putfield j tb (y_ev hn tb fu) sp mr q x1 x2 x3 r lo st n env h k = true := hev
        unfold y_h_putfield at hev
        have hdg := y_dl hdg hlen rfl
        obtain ⟨v, st1, rfl, hev_115⟩ := y_pop1_ok hev
        obtain ⟨o1, t, rfl, hev_116⟩ := y_pop1_ok hev_115
        obtain ⟨v0, c1, rfl, g0, hSR1⟩ := y_SR_cons hSR
        obtain ⟨v1, c2, rfl, g1, hSR2⟩ := y_SR_cons hSR1
        obtain ⟨kd, i, pp, a, t1, t2, rfl, t4, t5, hev_117⟩ := y_rcv_ok hev_116 he g1
        obtain ⟨hwf, hev_118⟩ := z_cond hev_117
        obtain ⟨⟨C, T, N⟩, k1, k2, k3, k4⟩ := y_fp_ok (wt := wt) (own := (y_y mr).cls) (x3 := x3) (j := j) hokI
        obtain ⟨dy, hdy, hdy2⟩ := hW.2.1
        have hk0 := y_obj_0 hev_118
        obtain ⟨ts, ty, o1', o2', hev_119⟩ := y_obj_ok hev_118 t1 t4 hdy
        obtain ⟨hft, hev_120⟩ := z_cond hev_119
        obtain ⟨fx', hkf1, hkf2⟩ := y_kf_ok kd i x2 h.2.1
        have hev_121 := (hkf1 _).symm.trans hev_120
        obtain ⟨lg', hlg', hev_122⟩ := y_lgp_ok hev_121 hfx
        obtain ⟨vs, r1, r2⟩ := y_cobj hW had t2 o1'
        obtain ⟨w, r3, r4⟩ := y_TL_get r2 o2'
        have hv := y_fit_ok hft hps0 he g0
        obtain ⟨f1, f2, f3, f4, ty', dv, f5, f6, f7, f8, f9⟩ := hA.1 x1 _ k1
        have hty := hSh _ (y_shape hdy hdy2 o1') x1 ts rfl x2 ty ty' f5 o2'
        obtain ⟨n1, n2⟩ := y_okT_ok hty hv
        have hl : x2 < vs.length := (List.getElem?_eq_some_iff.mp r3).1
        have hso : y_same tb.1.length tb.2.2.2.2.2 cw (cw.set pp (a, .inr (x1, vs.set x2 v0))) := y_same_obj r1 (fun z => y_wfs hwf t1 hps0 z) (fun z => y_wft hwf t1 hk0 z)
        refine va_put (D := D) (ci := x1) (C := C) (T := T) (N := N) hx hb hts f1 ty' f7 f2 hown hK hP hD hS0 pp r1 k1 x2 k2 (hts _ k3) (fun _ h9 => h9) k4 (f7 x2 k2) n1 n2 hl hdg (fun H1 locs1 hP1 hD1 hS1 => ?_)
        refine go hev_122 hr hle0 ⟨hK, hP1, hD1, hS1, by rw [z_fst_set r1]; exact had, y_WT_set hW r1 o1' ⟨rfl, y_TL_set (by rw [← had]; exact hv) r2 o2'⟩, y_KL_put hKK hlg' r1 g0 t1 hk0 (fun z => y_wfs hwf t1 hps0 z) (fun z => y_wft hwf t1 hk0 z) hps0, y_same_trans hsame hso, he, hrl, y_fxr_put hfx hkf2 t1 hk0 hps0 r1 hl g0, y_axr_put hax r1, hnl, hps, hps0⟩ ⟨⟨lv, hlv, hLR⟩, hSR2⟩
      | arraylength =>
        have hev : y_h_arraylength tb (y_ev hn tb fu) sp mr q x1 x2 x3 r lo st n env h k = true := hev
        unfold y_h_arraylength at hev
        have hdg := y_dl hdg hlen rfl
        obtain ⟨o1, t, rfl, hev_123⟩ := y_pop1_ok hev
        obtain ⟨v1, c2, rfl, g1, hSR2⟩ := y_SR_cons hSR
        rcases y_tby_ok hev_123 with ⟨mm, rfl, hmm, hev0⟩ | hev0
        · have g2 := (y_g_tx (by have := (y_tx3 hmm).1; omega)).mp g1
          rw [(y_tx3 hmm).2] at g2
          subst g2
          obtain ⟨byt, hE⟩ := hN.2.2.1 mm hmm
          have e4 : va_T .byte (b (mm % 1000 + 1)) (mm / 1000) (fun j => .int (byt.getD j 0)) A s s.heap := (hE.1 0 (by omega)).2.2.2
          have hev1 := (z_frc_eq _ _).symm.trans hev0
          exact va_tlen hx hb e4 hS0 (v := nI (mm / 1000)) rfl hdg (go hev1 hr hle0 hSt ⟨⟨lv, hlv, hLR⟩, rfl, hSR2⟩)
        · have hev_123 := hev0
          obtain ⟨kd, i, pp, a, t1, t2, rfl, t4, t5, hev_124⟩ := y_rcv_ok hev_123 he g1
          obtain ⟨dy, hdy, hdy2⟩ := hW.2.1
          obtain ⟨kk, ln, ty, o1', hev_125⟩ := y_arr_ok hev_124 t1 t4 hdy
          obtain ⟨cA, d, t0, r1, r2, r3⟩ := y_crow hW had t2 o1'
          exact va_alen hx hb hK hP pp t0 r1 r2 (v := nI ln) rfl hdg (go hev_125 hr hle0 hSt ⟨⟨lv, hlv, hLR⟩, rfl, hSR2⟩)
      | iaload =>
        have hev : y_h_iaload tb (y_ev hn tb fu) sp mr q x1 x2 x3 r lo st n env h k = true := hev
        unfold y_h_iaload at hev
        have hdg := y_dl hdg hlen rfl
        obtain ⟨j1, st1, rfl, hev_126⟩ := y_pop1_ok hev
        obtain ⟨a1, t, rfl, hev_127⟩ := y_pop1_ok hev_126
        obtain ⟨v2, c1, rfl, g2, hSR1⟩ := y_SR_cons hSR
        obtain ⟨v1, c2, rfl, g1, hSR2⟩ := y_SR_cons hSR1
        rcases y_bool hev_127 with ⟨hbS, hev0⟩ | ⟨hbS, hev0⟩
        · have e0 := y_isS_ok hbS
          subst e0
          obtain ⟨e1, x0, hx0, hx1, hx2, hx3⟩ := y_g_sc.mp g1
          subst e1
          obtain ⟨h6, hev1⟩ := z_cond hev0
          obtain ⟨y, rfl, hy⟩ := y_isI_ok (y_six_int h6) g2
          obtain ⟨k6, hk6, rfl⟩ := y_six_ok h6 hrl hx0 hy
          obtain ⟨g, hT⟩ := hN.2.2.2.2.1
          have HW : y_tv tb (y_ad ρ) (y_tg ρ) (.inl y_top) (.int (g (x0 + nI k6).toNatClampNeg)) := ⟨_, rfl, y_in_top _⟩
          obtain ⟨ρ', v, n', env', q1, q2, q3, q4, q5, q6, q7, hev2⟩ := y_nv_ok (b := b) hev1 hnl hps hps0 he HW
          have hSt' : y_St cls D K tb b s A cw0 ρ' H locs cw tys n' env' h := ⟨hK, hP, hD, hS0, by rw [q2]; exact had, by rw [q3]; exact hW, y_KL_mono q1 hKK, hsame, q6, y_rrel_mono q1.1 hrl, y_fxr_mono q1 hfx, y_axr_mono q1 hax, q4, q5.1, q5.2⟩
          exact va_ti hx hb hT hS0 (y_six_in hx1 hx2 hx3 hk6) rfl hdg (go hev2 hr (y_rle_trans hle0 q1) hSt' ⟨⟨lv, hlv, y_LR_mono (fun _ _ => y_g_mono q1) hLR⟩, q7, y_SR_mono (fun _ _ => y_g_mono q1) hSR2⟩)
        · have hev_127 := hev0
          obtain ⟨pp, adr, cA, ln, f, t0, x, rfl, rfl, r1, r2, r3, ρ', v, n', env', h', q1, q2, q3, hev_128⟩ := y_lod_ok (by decide) hev_127 hSt g1 g2
          exact va_iald hx hb hK hP pp t0 r1 r2 r3 hdg (go hev_128 hr (y_rle_trans hle0 q1) q2 ⟨⟨lv, hlv, y_LR_mono (fun _ _ => y_g_mono q1) hLR⟩, q3, y_SR_mono (fun _ _ => y_g_mono q1) hSR2⟩)
      | iastore =>
        have hev : y_h_iastore tb (y_ev hn tb fu) sp mr q x1 x2 x3 r lo st n env h k = true := hev
        unfold y_h_iastore at hev
        have hdg := y_dl hdg hlen rfl
        obtain ⟨w1, st0, rfl, hev_129⟩ := y_pop1_ok hev
        obtain ⟨j1, st1, rfl, hev_130⟩ := y_pop1_ok hev_129
        obtain ⟨a1, t, rfl, hev_131⟩ := y_pop1_ok hev_130
        obtain ⟨v3, c0, rfl, g3, hSR0⟩ := y_SR_cons hSR
        obtain ⟨v2, c1, rfl, g2, hSR1⟩ := y_SR_cons hSR0
        obtain ⟨v1, c2, rfl, g1, hSR2⟩ := y_SR_cons hSR1
        obtain ⟨pp, adr, cA, ln, f, t0, x, ty, h', rfl, rfl, r1, r2, r3, r4, r5, hev_131, r6⟩ := y_sto_ok (by decide) hev_131 hSt g1 g2 g3
        obtain ⟨x', rfl⟩ := r5.2
        exact va_iast hx hb hK hP hD hS0 pp t0 r1 r2 r3 hdg (fun H1 locs1 hP1 hD1 hS1 => go hev_131 hr hle0 (r6 x' H1 locs1 rfl hP1 hD1 hS1) ⟨⟨lv, hlv, hLR⟩, hSR2⟩)
      | invokevirtual j =>
        have hev : y_h_invokevirtual j tb (y_ev hn tb fu) sp mr q x1 x2 x3 r lo st n env h k = true := hev
        unfold y_h_invokevirtual at hev
        have hdg := y_dl hdg hlen rfl
        have hokV : y_cal tb x1 x2 (fun cm => and (and (Nat.blt (y_ci cm) (cond (Nat.ble 300 (x2 % 1000)) 100 99)) (decide ((y_y cm).name ≠ "<init>"))) (and (decide ((parseMethodDescriptor (y_y cm).desc).map (fun d => d.parameters.length) = some (x2 % 100))) (z_w wt x3 (.methodLink (y_y mr).cls j (y_y cm))))) = true := hokI
        rcases y_bool hev with ⟨hb3, hevT⟩ | ⟨hb3, hevT⟩
        · rw [hb3] at hokV
          have hokV : y_cal tb x1 x2 (fun cm => and (and (Nat.blt (y_ci cm) 100) (decide ((y_y cm).name ≠ "<init>"))) (and (decide ((parseMethodDescriptor (y_y cm).desc).map (fun d => d.parameters.length) = some (x2 % 100))) (z_w wt x3 (.methodLink (y_y mr).cls j (y_y cm))))) = true := hokV
          obtain ⟨xs, st1, hn1, rfl, hev1⟩ := y_popn_ok _ hevT
          obtain ⟨o1, t, rfl, hev2⟩ := y_pop1_ok hev1
          obtain ⟨cx, c1, rfl, hSx, hSR1⟩ := y_SR_split hSR
          obtain ⟨v1, ct, rfl, g1, hSR2⟩ := y_SR_cons hSR1
          obtain ⟨mm, rfl, hmm, hev3⟩ := y_txt_ok hev2
          have g2 := (y_g_tx (y_tx3 hmm).1).mp g1
          subst g2
          obtain ⟨byt, hE⟩ := hN.2.2.1 mm hmm
          have hav : y_SR (y_g tb ρ b) (.inr (.inr (.inr mm)) :: (xs.reverse ++ [])) (.ref (b (mm % 1000)) :: cx.reverse) := ⟨g1, by rw [List.append_nil]; exact y_SR_rev hSx⟩
          have hlenA : cx.reverse.length = x2 % 100 := by rw [List.length_reverse, ← y_SR_len hSx]; exact hn1
          have hKont : ∀ (ρ' : yRo) (H1 : Heap) (locs1 : List Loc) (cw' : va_W) (tys' : List (ClassId × FieldType)) (t' : List yV) (ct' : List Value) (n' : Nat) (env' : yEnv) (h' : yHp), y_ev hn tb fu sp mr r (q + 3) lo t' n' env' h' k = true → y_rle ρ ρ' → y_St cls D K tb b s A cw0 ρ' H1 locs1 cw' tys' n' env' h' → y_SR (y_g tb ρ' b) t' ct' → W p l e R s m args below meth c H1 locs1 ce sl Q (F0 m (q + 3) ls ct') := fun ρ' H1 locs1 cw' tys' t' ct' n' env' h' z1 z2 z3 z4 => go z1 hr (y_rle_trans hle0 z2) z3 ⟨⟨lv, hlv, y_LR_mono (fun _ _ => y_g_mono z2) hLR⟩, z4⟩
          rcases y_bool hev3 with ⟨_, hevZ⟩ | ⟨hb1, hev4⟩
          · cases hevZ
          obtain ⟨cm, hcm, hev5⟩ := z_opl_ok hev4
          obtain ⟨hcl, hev6⟩ := z_cond hev5
          unfold y_cal at hokV
          rw [hb1, cond_false] at hokV
          obtain ⟨cm', hcm', hok1⟩ := z_opl_ok hokV
          rw [hcm] at hcm'
          cases hcm'
          have hMM := hA.2.2.1 x1 cm hcm
          have hRun : ∀ X : va_W → List (ClassId × FieldType) → Option Value → Prop, y_Rm R ct cm → PreS s H (y_Pc nw b cls D cw tys H.size (.ref (b (mm % 1000)) :: cx.reverse)) (.ref (b (mm % 1000)) :: cx.reverse) → Met l (y_y cm) (y_ws wt cm) (y_rm cm) (y_Pc nw b cls D cw tys H.size (.ref (b (mm % 1000)) :: cx.reverse)) (y_Q cls D X cw H.size) 0 0 (va_A cw H.size) → va_Run p l e R s m args below meth c H locs ce sl 0 0 (F0 m q ls (cx ++ .ref (b (mm % 1000)) :: ct)) ct (y_Q cls D X cw H.size (.ref (b (mm % 1000)) :: cx.reverse).toArray) (va_A cw H.size) := by
            intro X hRm hpre hMet
            obtain ⟨o0, o3⟩ := z_and hok1
            obtain ⟨o1, o2⟩ := z_and o3
            obtain ⟨m1, m2, m3, m4, m5, m6⟩ := hMM.1
            obtain ⟨⟨m8, m9⟩, m10, _⟩ := m5 (z_lt_of (z_and o0).1)
            have m11 := m10 (Nat.eq_of_beq_eq_true hcl)
            exact va_runV (As := cx.reverse) (rest := ct) (C := (y_y cm).cls) ⟨hx, hb, hml, hown, hts⟩ hMet (cwV (x2 % 100) hts (y_goodV m1 (z_w_ok o2) m8 m9 m2) rfl hRm.2.2.1 hRm.2.2.2 ⟨rfl, m4.1, m4.2, of_decide_eq_true o1⟩ hRm.2.1) ⟨hpre.1, by rw [m11]; exact vk_recv hE (i := 0) (by omega) hS0, hpre.2⟩ rfl hlenA hlv.1 (by rw [List.reverse_reverse]) (lv_room hRm.1) hdg hcs
          exact y_inl_ok hS hF hFm hSt hMM.1 hMM.2 hev6 hav hSR2 hRun hKont
        · rw [hb3] at hokV
          have hokV : y_cal tb x1 x2 (fun cm => and (and (Nat.blt (y_ci cm) 99) (decide ((y_y cm).name ≠ "<init>"))) (and (decide ((parseMethodDescriptor (y_y cm).desc).map (fun d => d.parameters.length) = some (x2 % 100))) (z_w wt x3 (.methodLink (y_y mr).cls j (y_y cm))))) = true := hokV
          have hev_132 := hevT
          obtain ⟨xs, st1, hn1, rfl, hev_133⟩ := y_popn_ok _ hev_132
          obtain ⟨o1, t, rfl, hev_134⟩ := y_pop1_ok hev_133
          obtain ⟨cx, c1, rfl, hSx, hSR1⟩ := y_SR_split hSR
          obtain ⟨v1, ct, rfl, g1, hSR2⟩ := y_SR_cons hSR1
          have g1' := g1
          obtain ⟨kd, i, pp, a, t1, t2, rfl, t4, t5, hev_135⟩ := y_rcv_ok hev_134 he g1
          obtain ⟨dy, hdy, hdy2⟩ := hW.2.1
          have hav : y_SR (y_g tb ρ b) (o1 :: (xs.reverse ++ [])) (.ref a :: cx.reverse) := ⟨g1', by rw [List.append_nil]; exact y_SR_rev hSx⟩
          have hlenA : cx.reverse.length = x2 % 100 := by rw [List.length_reverse, ← y_SR_len hSx]; exact hn1
          have hKont : ∀ (ρ' : yRo) (H1 : Heap) (locs1 : List Loc) (cw' : va_W) (tys' : List (ClassId × FieldType)) (t' : List yV) (ct' : List Value) (n' : Nat) (env' : yEnv) (h' : yHp), y_ev hn tb fu sp mr r (q + 3) lo t' n' env' h' k = true → y_rle ρ ρ' → y_St cls D K tb b s A cw0 ρ' H1 locs1 cw' tys' n' env' h' → y_SR (y_g tb ρ' b) t' ct' → W p l e R s m args below meth c H1 locs1 ce sl Q (F0 m (q + 3) ls ct') := fun ρ' H1 locs1 cw' tys' t' ct' n' env' h' z1 z2 z3 z4 => go z1 hr (y_rle_trans hle0 z2) z3 ⟨⟨lv, hlv, y_LR_mono (fun _ _ => y_g_mono z2) hLR⟩, z4⟩
          have hRun : ∀ (cm : yMR), y_okM wt cls cm → y_cls tb kd i (y_ci cm) = true → and (and (Nat.blt (y_ci cm) 99) (decide ((y_y cm).name ≠ "<init>"))) (and (decide ((parseMethodDescriptor (y_y cm).desc).map (fun d => d.parameters.length) = some (x2 % 100))) (z_w wt x3 (.methodLink (y_y mr).cls j (y_y cm)))) = true → ∀ X : va_W → List (ClassId × FieldType) → Option Value → Prop, y_Rm R ct cm → PreS s H (y_Pc nw b cls D cw tys H.size (.ref a :: cx.reverse)) (.ref a :: cx.reverse) → Met l (y_y cm) (y_ws wt cm) (y_rm cm) (y_Pc nw b cls D cw tys H.size (.ref a :: cx.reverse)) (y_Q cls D X cw H.size) 0 0 (va_A cw H.size) → va_Run p l e R s m args below meth c H locs ce sl 0 0 (F0 m q ls (cx ++ .ref a :: ct)) ct (y_Q cls D X cw H.size (.ref a :: cx.reverse).toArray) (va_A cw H.size) := by
            intro cm hM hcl hok1 X hRm hpre hMet
            obtain ⟨o0, o3⟩ := z_and hok1
            obtain ⟨o1, o2⟩ := z_and o3
            obtain ⟨m1, m2, m3, m4, m5, m6⟩ := hM
            have m99 := z_lt_of (z_and o0).1
            obtain ⟨⟨m8, m9⟩, _, m10⟩ := m5 (by omega)
            obtain ⟨cq, m10, m11⟩ := m10 m99
            obtain ⟨ts, u1⟩ := y_cls_ok hcl t1 t4 hdy
            obtain ⟨vs, u2, _⟩ := y_cobj hW had t2 u1
            exact va_runV (As := cx.reverse) (rest := ct) (C := (y_y cm).cls) ⟨hx, hb, hml, hown, hts⟩ hMet (cwV (x2 % 100) hts (y_goodV m1 (z_w_ok o2) m8 m9 m2) rfl hRm.2.2.1 hRm.2.2.2 ⟨rfl, m4.1, m4.2, of_decide_eq_true o1⟩ hRm.2.1) ⟨hpre.1, by rw [← m11]; exact va_recv hK hP m10 u2, hpre.2⟩ rfl hlenA hlv.1 (by rw [List.reverse_reverse]) (lv_room hRm.1) hdg hcs
          rcases y_bool hev_135 with ⟨hb1, hev1⟩ | ⟨hb1, hev1⟩
          · obtain ⟨cn, hcn, hev2⟩ := z_opl_ok hev1
            obtain ⟨hcl, hev3⟩ := z_cond hev2
            have hokI := hokV
            unfold y_cal at hokI
            rw [hb1, cond_true] at hokI
            obtain ⟨cn', hcn', hok1⟩ := z_opl_ok hokI
            rw [hcn] at hcn'
            cases hcn'
            exact y_con_ok hKs (hC x1 cn hcn) hF hFm hSt hev3 hav hSR2 (hRun cn.1 (hA.2.2.2 x1 cn hcn) hcl hok1) hKont
          · obtain ⟨cm, hcm, hev2⟩ := z_opl_ok hev1
            obtain ⟨hcl, hev3⟩ := z_cond hev2
            have hokI := hokV
            unfold y_cal at hokI
            rw [hb1, cond_false] at hokI
            obtain ⟨cm', hcm', hok1⟩ := z_opl_ok hokI
            rw [hcm] at hcm'
            cases hcm'
            have hMM := hA.2.2.1 x1 cm hcm
            exact y_inl_ok hS hF hFm hSt hMM.1 hMM.2 hev3 hav hSR2 (hRun cm hMM.1 hcl hok1) hKont
      | ifnull o =>
        have hev : y_h_ifnull o tb (y_ev hn tb fu) sp mr q x1 x2 x3 r lo st n env h k = true := hev
        unfold y_h_ifnull at hev
        have hdg := y_dl hdg hlen rfl
        obtain ⟨a, t, rfl, hev_136⟩ := y_pop1_ok hev
        obtain ⟨v1, c2, rfl, g1, hSR1⟩ := y_SR_cons hSR
        rcases y_nul_ok hev_136 he hrl g1 with ⟨rfl, e1, he1, hevA⟩ | ⟨ad1, rfl, e1, he1, hevA⟩
        · exact lv_ifnullN hx hb hdg (of_decide_eq_true hokI) (go hevA (hj _) hle0 ⟨hK, hP, hD, hS0, had, hW, hKK, hsame, he1, hrl, hfx, hax, hnl, hps, hps0⟩ ⟨⟨lv, hlv, hLR⟩, hSR1⟩)
        · exact lv_ifnull hx hb hdg (go hevA hr hle0 ⟨hK, hP, hD, hS0, had, hW, hKK, hsame, he1, hrl, hfx, hax, hnl, hps, hps0⟩ ⟨⟨lv, hlv, hLR⟩, hSR1⟩)
      | ifnonnull o =>
        have hev : y_h_ifnonnull o tb (y_ev hn tb fu) sp mr q x1 x2 x3 r lo st n env h k = true := hev
        unfold y_h_ifnonnull at hev
        have hdg := y_dl hdg hlen rfl
        obtain ⟨a, t, rfl, hev_137⟩ := y_pop1_ok hev
        obtain ⟨v1, c2, rfl, g1, hSR1⟩ := y_SR_cons hSR
        rcases y_nul_ok hev_137 he hrl g1 with ⟨rfl, e1, he1, hevA⟩ | ⟨ad1, rfl, e1, he1, hevA⟩
        · exact lv_ifnonnullN hx hb hdg (go hevA hr hle0 ⟨hK, hP, hD, hS0, had, hW, hKK, hsame, he1, hrl, hfx, hax, hnl, hps, hps0⟩ ⟨⟨lv, hlv, hLR⟩, hSR1⟩)
        · exact lv_ifnonnull hx hb hdg (of_decide_eq_true hokI) (go hevA (hj _) hle0 ⟨hK, hP, hD, hS0, had, hW, hKK, hsame, he1, hrl, hfx, hax, hnl, hps, hps0⟩ ⟨⟨lv, hlv, hLR⟩, hSR1⟩)
      | ineg =>
        have hev : y_h_ineg tb (y_ev hn tb fu) sp mr q x1 x2 x3 r lo st n env h k = true := hev
        unfold y_h_ineg at hev
        have hdg := y_dl hdg hlen rfl
        obtain ⟨a1, t, rfl, hev_138⟩ := y_pop1_ok hev
        obtain ⟨v1, c2, rfl, g1, hSR2⟩ := y_SR_cons hSR
        obtain ⟨ii1, ii2⟩ := y_bin_int hev_138
        obtain ⟨x, rfl, i2⟩ := y_isI_ok ii2 g1
        have i1 : y_gi (y_sg ρ) (.inl 0) (nI 0) := rfl
        obtain ⟨sg', v, n', env', rl', w1, w2, w3, w4, w5, hev_139⟩ := y_bin_ok hev_138 hnl he hrl i1 i2
        obtain ⟨ρ', q1, q2, q3, q4⟩ : ∃ ρ' : yRo, y_rle ρ ρ' ∧ y_ad ρ' = y_ad ρ ∧ y_tg ρ' = y_tg ρ ∧ ρ' = (sg', y_ps ρ, y_ad ρ, y_tg ρ) := ⟨(sg', y_ps ρ, y_ad ρ, y_tg ρ), ⟨w1, fun _ _ q => q, fun _ _ q => q, fun _ _ q => q⟩, rfl, rfl, rfl⟩
        have hSt' : y_St cls D K tb b s A cw0 ρ' H locs cw tys n' env' (rl', h.2) := by
          have hn' : n ≤ n' := by
            rw [← hnl, ← w2]
            exact y_le_len w1
          refine ⟨hK, hP, hD, hS0, by rw [q2]; exact had, by rw [q3]; exact hW, y_KL_mono q1 hKK, hsame, by rw [q4]; exact w3, by rw [q4]; exact w4, y_fxr_mono q1 hfx, y_axr_mono q1 hax, by rw [q4]; exact w2, by rw [q4]; exact fun i z => hps i (by omega), by rw [q4]; exact hps0⟩
        have hsgE : y_sg ρ' = sg' := by rw [q4]
        rw [← hsgE] at w5
        have hle1 := y_rle_trans hle0 q1
        have e0 : (nI 0 : Int32) - x = -x := by rw [show (nI 0 : Int32) = 0 from by decide]; exact Int32.zero_sub x
        have w6 : y_g tb ρ' b v (.int (-x)) := by rw [← e0]; exact y_g_int w5
        exact lv_ineg hx hb hdg (go hev_139 hr hle1 hSt' ⟨⟨lv, hlv, y_LR_mono (fun _ _ => y_g_mono q1) hLR⟩, w6, y_SR_mono (fun _ _ => y_g_mono q1) hSR2⟩)
      | baload =>
        have hev : y_h_baload tb (y_ev hn tb fu) sp mr q x1 x2 x3 r lo st n env h k = true := hev
        unfold y_h_baload at hev
        have hdg := y_dl hdg hlen rfl
        obtain ⟨j1, st1, rfl, hev_140⟩ := y_pop1_ok hev
        obtain ⟨a1, t, rfl, hev_141⟩ := y_pop1_ok hev_140
        obtain ⟨v2, c1, rfl, g2, hSR1⟩ := y_SR_cons hSR
        obtain ⟨v1, c2, rfl, g1, hSR2⟩ := y_SR_cons hSR1
        rcases y_tby_ok hev_141 with ⟨mm, rfl, hmm, hev0⟩ | hev0
        · have g3 := (y_g_tx (by have := (y_tx3 hmm).1; omega)).mp g1
          rw [(y_tx3 hmm).2] at g3
          subst g3
          obtain ⟨byt, hE⟩ := hN.2.2.1 mm hmm
          have e4 : va_T .byte (b (mm % 1000 + 1)) (mm / 1000) (fun j => .int (byt.getD j 0)) A s s.heap := (hE.1 0 (by omega)).2.2.2
          obtain ⟨x, rfl, ij⟩ := y_isI_ok (y_ix_int hev0) g2
          obtain ⟨j', _, hin, hlt, _, hev1⟩ := y_ix_ok hev0 he ij
          have HW : y_tv tb (y_ad ρ) (y_tg ρ) (.inl y_top) (.int (byt.getD x.toNatClampNeg 0)) := ⟨_, rfl, y_in_top _⟩
          obtain ⟨ρ', v, n', env', q1, q2, q3, q4, q5, q6, q7, hev2⟩ := y_nv_ok (b := b) hev1 hnl hps hps0 he HW
          have hSt' : y_St cls D K tb b s A cw0 ρ' H locs cw tys n' env' h := ⟨hK, hP, hD, hS0, by rw [q2]; exact had, by rw [q3]; exact hW, y_KL_mono q1 hKK, hsame, q6, y_rrel_mono q1.1 hrl, y_fxr_mono q1 hfx, y_axr_mono q1 hax, q4, q5.1, q5.2⟩
          exact va_tb hx hb e4 hS0 hin rfl hdg (go hev2 hr (y_rle_trans hle0 q1) hSt' ⟨⟨lv, hlv, y_LR_mono (fun _ _ => y_g_mono q1) hLR⟩, q7, y_SR_mono (fun _ _ => y_g_mono q1) hSR2⟩)
        · have hev_141 := hev0
          rcases Bool.or_eq_true_iff.mp hev_141 with hevA | hevA
          · obtain ⟨pp, adr, cA, ln, f, t0, x, rfl, rfl, r1, r2, r3, ρ', v, n', env', h', q1, q2, q3, hevB⟩ := y_lod_ok (by decide) hevA hSt g1 g2
            exact va_bald hx hb hK hP pp t0 r1 r2 r3 hdg (go hevB hr (y_rle_trans hle0 q1) q2 ⟨⟨lv, hlv, y_LR_mono (fun _ _ => y_g_mono q1) hLR⟩, q3, y_SR_mono (fun _ _ => y_g_mono q1) hSR2⟩)
          · obtain ⟨pp, adr, cA, ln, f, t0, x, rfl, rfl, r1, r2, r3, ρ', v, n', env', h', q1, q2, q3, hevB⟩ := y_lod_ok (by decide) hevA hSt g1 g2
            exact va_zald hx hb hK hP pp t0 r1 r2 r3 hdg (go hevB hr (y_rle_trans hle0 q1) q2 ⟨⟨lv, hlv, y_LR_mono (fun _ _ => y_g_mono q1) hLR⟩, q3, y_SR_mono (fun _ _ => y_g_mono q1) hSR2⟩)
      | laload =>
        have hev : y_h_laload tb (y_ev hn tb fu) sp mr q x1 x2 x3 r lo st n env h k = true := hev
        unfold y_h_laload at hev
        have hdg := y_dl hdg hlen rfl
        obtain ⟨j1, st1, rfl, hev_142⟩ := y_pop1_ok hev
        obtain ⟨a1, t, rfl, hev_143⟩ := y_pop1_ok hev_142
        obtain ⟨v2, c1, rfl, g2, hSR1⟩ := y_SR_cons hSR
        obtain ⟨v1, c2, rfl, g1, hSR2⟩ := y_SR_cons hSR1
        obtain ⟨kd, i, pp, a, t1, t2, rfl, t4, t5, hev_144⟩ := y_rcv_ok hev_143 he g1
        obtain ⟨dy, hdy, hdy2⟩ := hW.2.1
        obtain ⟨qq, ln, ty, o1', hev_145⟩ := y_arr_ok hev_144 t1 t4 hdy
        obtain ⟨hk, hev_146⟩ := z_cond hev_145
        have hk := Nat.eq_of_beq_eq_true hk
        subst hk
        obtain ⟨cA, d, t0, r1, r2, r3⟩ := y_crow hW had t2 o1'
        obtain ⟨gg, rfl⟩ := r3
        obtain ⟨x, rfl, ij⟩ := y_isI_ok (y_ix_int hev_146) g2
        obtain ⟨j', _, hin, hlt, _, hev_147⟩ := y_ix_ok hev_146 he ij
        exact va_lald hx hb hK hP pp t0 r1 r2 hin hdg (go hev_147 hr hle0 hSt ⟨⟨lv, hlv, hLR⟩, ⟨_, rfl⟩, hSR2⟩)
      | invokespecial j =>
        have hev : y_h_invokespecial j tb (y_ev hn tb fu) sp mr q x1 x2 x3 r lo st n env h k = true := hev
        unfold y_h_invokespecial at hev
        exact absurd (show false = true from hokI) Bool.false_ne_true
      | ldc2_w j =>
        have hev : y_h_ldc2_w j tb (y_ev hn tb fu) sp mr q x1 x2 x3 r lo st n env h k = true := hev
        unfold y_h_ldc2_w at hev
        have hdg := y_dl hdg hlen rfl
        obtain ⟨vl, hvl⟩ := y_wl_ok (wt := wt) (n := x3) (own := (y_y mr).cls) (j := j) hokI
        exact lv_ldc2 hx hb hown (hts _ hvl) hdg (go hev hr hle0 hSt ⟨⟨lv, hlv, hLR⟩, ⟨_, rfl⟩, hSR⟩)
      | lstore_n j =>
        have hev : y_h_lstore_n j tb (y_ev hn tb fu) sp mr q x1 x2 x3 r lo st n env h k = true := hev
        unfold y_h_lstore_n at hev
        have hdg := y_dl hdg hlen rfl
        obtain ⟨a, t, rfl, hev_148⟩ := y_pop1_ok hev
        obtain ⟨v, ct, rfl, g1, hSR1⟩ := y_SR_cons hSR
        obtain ⟨h1, hev_149⟩ := z_cond hev_148
        obtain ⟨h2, h3⟩ := z_and h1
        obtain ⟨x, rfl⟩ := y_isL_ok h2 g1
        have hev_150 := (y_dell_eq _ _ _).symm.trans hev_149
        have hev_151 := (y_dell_eq _ _ _).symm.trans hev_150
        exact lv_lstore_n hx hb hdg rfl hlv (z_lt_of h3) rfl (fun ls' hl' => go hev_151 hr hle0 hSt ⟨⟨_, hl', ⟨rfl, g1⟩, y_LR_del2 _ hLR⟩, hSR1⟩)
      | lstore j =>
        have hev : y_h_lstore j tb (y_ev hn tb fu) sp mr q x1 x2 x3 r lo st n env h k = true := hev
        unfold y_h_lstore at hev
        have hdg := y_dl hdg hlen rfl
        obtain ⟨a, t, rfl, hev_152⟩ := y_pop1_ok hev
        obtain ⟨v, ct, rfl, g1, hSR1⟩ := y_SR_cons hSR
        obtain ⟨h1, hev_153⟩ := z_cond hev_152
        obtain ⟨h2, h3⟩ := z_and h1
        obtain ⟨x, rfl⟩ := y_isL_ok h2 g1
        have hev_154 := (y_dell_eq _ _ _).symm.trans hev_153
        have hev_155 := (y_dell_eq _ _ _).symm.trans hev_154
        exact lv_lstore hx hb hdg hlv (z_lt_of h3) rfl (fun ls' hl' => go hev_155 hr hle0 hSt ⟨⟨_, hl', ⟨rfl, g1⟩, y_LR_del2 _ hLR⟩, hSR1⟩)
      | invokestatic j =>
        have hev : y_h_invokestatic j tb (y_ev hn tb fu) sp mr q x1 x2 x3 r lo st n env h k = true := hev
        unfold y_h_invokestatic at hev
        have hdg := y_dl hdg hlen rfl
        rcases y_bool hev with ⟨hb0, hev0⟩ | ⟨hb0, hev0⟩
        · have hl : cond (Nat.ble 2000 x2) (z_w wt x3 (.methodLink (y_y mr).cls j (y_natn x2))) (y_cal tb x1 x2 fun cm => y_oks wt nw mr j x2 x3 cm) = true := hokI
          rw [hb0, cond_true] at hl
          have hl := hts _ (z_w_ok hl)
          obtain ⟨hrm, hevN⟩ := z_cond hev0
          obtain ⟨rm1, rm2⟩ := z_and hrm
          have rm3 := (y_en_ok (tb := tb) (ρ := ρ) (b := b) 0 hSR).2.2
          have rm4 : 1 ≤ R.frames := by rw [hR]; exact z_le_of rm1
          have rm5 : (cst.map fun v => v.category).sum + 40 ≤ R.locals := by rw [hR, rm3]; exact z_le_of rm2
          obtain ⟨hN1, hN2, hN3, hN4, hN5, hN6, hN7, hN8, hN9, hN10⟩ := hA.2.1
          unfold y_nat at hevN
          unfold y_natn at hl
          split at hevN
          · rename_i e0
            rw [e0] at hl
            obtain ⟨b1, st1, rfl, hevA⟩ := y_pop1_ok hevN
            obtain ⟨a1, t, rfl, hevB⟩ := y_pop1_ok hevA
            obtain ⟨v2, c1, rfl, g2, hSR1⟩ := y_SR_cons hSR
            obtain ⟨v1, c2, rfl, g1, hSR2⟩ := y_SR_cons hSR1
            obtain ⟨h1, hevC⟩ := z_cond hevB
            obtain ⟨h1, h2⟩ := z_and h1
            obtain ⟨x, rfl, i1⟩ := y_isI_ok h1 g1
            obtain ⟨y, rfl, i2⟩ := y_isI_ok h2 g2
            simp only [List.map_cons, List.sum_cons] at rm5
            obtain ⟨k1, k2⟩ := y_br_ok hevC he hrl i1 i2
            by_cases z : x < y
            · obtain ⟨e1, he1, hevD⟩ := k1 z
              exact va_mmax hx hb (hml.trans hlv.1.symm) hown hl (hts _ hN1) (hts _ hN4) (hts _ hN5) rm4 (by omega) hcs.1 hcs.2 hdg (by rw [if_pos z]; exact go hevD hr hle0 ⟨hK, hP, hD, hS0, had, hW, hKK, hsame, he1, hrl, hfx, hax, hnl, hps, hps0⟩ ⟨⟨lv, hlv, hLR⟩, g2, hSR2⟩)
            · obtain ⟨e1, he1, hevD⟩ := k2 z
              exact va_mmax hx hb (hml.trans hlv.1.symm) hown hl (hts _ hN1) (hts _ hN4) (hts _ hN5) rm4 (by omega) hcs.1 hcs.2 hdg (by rw [if_neg z]; exact go hevD hr hle0 ⟨hK, hP, hD, hS0, had, hW, hKK, hsame, he1, hrl, hfx, hax, hnl, hps, hps0⟩ ⟨⟨lv, hlv, hLR⟩, g1, hSR2⟩)
          · rename_i e0
            rw [e0] at hl
            obtain ⟨b1, st1, rfl, hevA⟩ := y_pop1_ok hevN
            obtain ⟨a1, t, rfl, hevB⟩ := y_pop1_ok hevA
            obtain ⟨v2, c1, rfl, g2, hSR1⟩ := y_SR_cons hSR
            obtain ⟨v1, c2, rfl, g1, hSR2⟩ := y_SR_cons hSR1
            obtain ⟨h1, hevC⟩ := z_cond hevB
            obtain ⟨h1, h2⟩ := z_and h1
            obtain ⟨x, rfl, i1⟩ := y_isI_ok h1 g1
            obtain ⟨y, rfl, i2⟩ := y_isI_ok h2 g2
            simp only [List.map_cons, List.sum_cons] at rm5
            obtain ⟨k1, k2⟩ := y_br_ok hevC he hrl i2 i1
            by_cases z : y < x
            · obtain ⟨e1, he1, hevD⟩ := k1 z
              exact va_mmin hx hb (hml.trans hlv.1.symm) hown hl (hts _ hN2) (hts _ hN4) (hts _ hN6) rm4 (by omega) hcs.1 hcs.2 hdg (by rw [if_pos z]; exact go hevD hr hle0 ⟨hK, hP, hD, hS0, had, hW, hKK, hsame, he1, hrl, hfx, hax, hnl, hps, hps0⟩ ⟨⟨lv, hlv, hLR⟩, g2, hSR2⟩)
            · obtain ⟨e1, he1, hevD⟩ := k2 z
              exact va_mmin hx hb (hml.trans hlv.1.symm) hown hl (hts _ hN2) (hts _ hN4) (hts _ hN6) rm4 (by omega) hcs.1 hcs.2 hdg (by rw [if_neg z]; exact go hevD hr hle0 ⟨hK, hP, hD, hS0, had, hW, hKK, hsame, he1, hrl, hfx, hax, hnl, hps, hps0⟩ ⟨⟨lv, hlv, hLR⟩, g1, hSR2⟩)
          · rename_i e0
            rw [e0] at hl
            obtain ⟨a1, t, rfl, hevB⟩ := y_pop1_ok hevN
            obtain ⟨v1, c2, rfl, g1, hSR2⟩ := y_SR_cons hSR
            obtain ⟨h1, hevC⟩ := z_cond hevB
            obtain ⟨x, rfl, i1⟩ := y_isI_ok h1 g1
            simp only [List.map_cons, List.sum_cons] at rm5
            have HW : y_tv tb (y_ad ρ) (y_tg ρ) (.inl y_top) (.int (if 0 ≤ x then x else 0 - x)) := ⟨_, rfl, y_in_top _⟩
            obtain ⟨ρ', v, n', env', q1, q2, q3, q4, q5, q6, q7, hevD⟩ := y_nv_ok (b := b) hevC hnl hps hps0 he HW
            have hSt' : y_St cls D K tb b s A cw0 ρ' H locs cw tys n' env' h := ⟨hK, hP, hD, hS0, by rw [q2]; exact had, by rw [q3]; exact hW, y_KL_mono q1 hKK, hsame, q6, y_rrel_mono q1.1 hrl, y_fxr_mono q1 hfx, y_axr_mono q1 hax, q4, q5.1, q5.2⟩
            exact va_mabs hx hb (hml.trans hlv.1.symm) hown hl (hts _ hN3) (hts _ hN4) (hts _ hN7) rm4 (by omega) hcs.1 hcs.2 hdg (go hevD hr (y_rle_trans hle0 q1) hSt' ⟨⟨lv, hlv, y_LR_mono (fun _ _ => y_g_mono q1) hLR⟩, q7, y_SR_mono (fun _ _ => y_g_mono q1) hSR2⟩)
          · rename_i e0
            rw [e0] at hl
            obtain ⟨cV, st1, rfl, hev1⟩ := y_pop1_ok hevN
            obtain ⟨dpV, st2, rfl, hev2⟩ := y_pop1_ok hev1
            obtain ⟨dV, st3, rfl, hev3⟩ := y_pop1_ok hev2
            obtain ⟨spV, st4, rfl, hev4⟩ := y_pop1_ok hev3
            obtain ⟨sV, t, rfl, hev5⟩ := y_pop1_ok hev4
            obtain ⟨v5, c5, rfl, g5, hSR5⟩ := y_SR_cons hSR
            obtain ⟨v4, c4, rfl, g4, hSR4⟩ := y_SR_cons hSR5
            obtain ⟨v3, c3, rfl, g3, hSR3⟩ := y_SR_cons hSR4
            obtain ⟨v2, c2, rfl, g2, hSR2⟩ := y_SR_cons hSR3
            obtain ⟨v1, c1, rfl, g1, hSR1⟩ := y_SR_cons hSR2
            obtain ⟨hI, hev6⟩ := z_cond hev5
            obtain ⟨hI1, hI⟩ := z_and hI
            obtain ⟨hI2, hI3⟩ := z_and hI
            obtain ⟨cx, rfl, i5⟩ := y_isI_ok hI1 g5
            obtain ⟨dx, rfl, i4⟩ := y_isI_ok hI2 g4
            obtain ⟨sx, rfl, i2⟩ := y_isI_ok hI3 g2
            obtain ⟨sp', j2, hev7⟩ := y_rs_ok hev6 he i2
            obtain ⟨dp', j4, hev8⟩ := y_rs_ok hev7 he i4
            obtain ⟨c', j5, hev9⟩ := y_rs_ok hev8 he i5
            obtain ⟨kd, i, pp, adr, t1, t2, rfl, t4, t5, hev10⟩ := y_rcv_ok hev9 he g1
            obtain ⟨kd2, i2', pp2, adr2, s1, s2, rfl, s4, s5, hev11⟩ := y_rcv_ok hev10 he g3
            obtain ⟨dy, hdy, hdy2⟩ := hW.2.1
            obtain ⟨qq, ln, ty, o1', hev12⟩ := y_arr_ok hev11 t1 t4 hdy
            have hk0 := y_arr_0 hev12
            obtain ⟨qq2, ln2, ty2, o2', hev13⟩ := y_arr_ok hev12 s1 s4 hdy
            obtain ⟨hc, hev14⟩ := z_cond hev13
            obtain ⟨hc1, hc2⟩ := z_and hc
            obtain ⟨hwa, hc1⟩ := z_and hc1
            obtain ⟨hwa, hwl⟩ := z_and hwa
            obtain ⟨hq1, hq2⟩ := z_and hc1
            have hq1 := Nat.eq_of_beq_eq_true hq1
            subst hq1
            have hq2 := Nat.eq_of_beq_eq_true hq2
            subst hq2
            obtain ⟨hc3, hc4⟩ := z_and hc2
            obtain ⟨hsub, hln⟩ := z_and hc3
            obtain ⟨hp1, hp2⟩ := z_and hc4
            obtain ⟨cA, d, t0, r1, r2, r3⟩ := y_crow hW had t2 o1'
            obtain ⟨f, rfl, r5⟩ := r3
            obtain ⟨cB, d2, t02, w1, w2, w3⟩ := y_crow hW had s2 o2'
            obtain ⟨f2, rfl, w5⟩ := w3
            obtain ⟨p1, p2, p3⟩ := y_pce_ok hp1 he hrl j2 j5
            obtain ⟨p4, p5, p6⟩ := y_pce_ok hp2 he hrl j4 j5
            obtain ⟨ax', k1, k2⟩ := y_ka_ok kd2 i2' y_null h.2.2.1
            have hevH := (k1 _).symm.trans hev14
            simp only [List.map_cons, List.sum_cons] at rm5
            have hnw : nativeFrameWords "java/lang/System" "arraycopy" 5 = 7 := by decide
            refine va_copyi hx hb (hml.trans hlv.1.symm) hown hl (hts _ hN8) (hts _ hN9) (hts _ hN10) hK hP hD hS0 pp pp2 t0 t02 r1 w1 r2 w2 rfl (y_nlt p1) (y_nlt p4) (y_nlt p2) p3 p6 (fun _ _ => rfl) rm4 (by rw [hnw]; omega) hdg (fun H1 locs1 hP1 hD1 hS1 => ?_)
            have hso : y_same tb.1.length tb.2.2.2.2.2 cw (cw.set pp2 (adr2, .inl (cB, ln2, .inl (va_cpy f f2 sx.toNatClampNeg dx.toNatClampNeg cx.toNatClampNeg)))) := y_same_row w1 (fun z => y_was hwa s1 hps0 z) (fun z => y_wat hwa s1 hk0 z)
            have hax' := y_axr_all (g' := va_cpy f f2 sx.toNatClampNeg dx.toNatClampNeg cx.toNatClampNeg) hax k2 s1 hk0 hps0 w1
            refine go hevH hr hle0 ⟨hK, hP1, hD1, hS1, by rw [z_fst_set w1]; exact had, y_WT_set hW w1 o2' ⟨rfl, ⟨t02, w2⟩, ⟨_, rfl, fun jj hjj => ?_⟩⟩, y_KL_same hKK (y_same_row w1 (fun z => y_wasP hwa hwl s1 hps0 z) (fun z => y_wat hwa s1 hk0 z)), y_same_trans hsame hso, he, hrl, y_fxr_row hfx w1, hax', hnl, hps, hps0⟩ ⟨⟨lv, hlv, hLR⟩, hSR1⟩
            unfold va_cpy
            split
            · rename_i hjr
              exact y_int_tv hsub (r5 _ (by omega))
            · exact w5 jj hjj
          · cases hevN
        obtain ⟨xs, st1, hn1, rfl, hevP⟩ := y_popn_ok _ hev0
        obtain ⟨cx, ct, rfl, hSx, hSR2⟩ := y_SR_split hSR
        have hav : y_SR (y_g tb ρ b) (xs.reverse ++ []) cx.reverse := by rw [List.append_nil]; exact y_SR_rev hSx
        have hlenA : cx.reverse.length = x2 % 100 := by rw [List.length_reverse, ← y_SR_len hSx]; exact hn1
        have hKont : ∀ (ρ' : yRo) (H1 : Heap) (locs1 : List Loc) (cw' : va_W) (tys' : List (ClassId × FieldType)) (t' : List yV) (ct' : List Value) (n' : Nat) (env' : yEnv) (h' : yHp), y_ev hn tb fu sp mr r (q + 3) lo t' n' env' h' k = true → y_rle ρ ρ' → y_St cls D K tb b s A cw0 ρ' H1 locs1 cw' tys' n' env' h' → y_SR (y_g tb ρ' b) t' ct' → W p l e R s m args below meth c H1 locs1 ce sl Q (F0 m (q + 3) ls ct') := fun ρ' H1 locs1 cw' tys' t' ct' n' env' h' z1 z2 z3 z4 => go z1 hr (y_rle_trans hle0 z2) z3 ⟨⟨lv, hlv, y_LR_mono (fun _ _ => y_g_mono z2) hLR⟩, z4⟩
        have hRun : ∀ (cm : yMR), y_okM wt cls cm → y_oks wt nw mr j x2 x3 cm = true → ∀ X : va_W → List (ClassId × FieldType) → Option Value → Prop, y_Rm R ct cm → PreS s H (y_Pc nw b cls D cw tys H.size cx.reverse) cx.reverse → Met l (y_y cm) (y_ws wt cm) (y_rm cm) (y_Pc nw b cls D cw tys H.size cx.reverse) (y_Q cls D X cw H.size) 0 0 (va_A cw H.size) → va_Run p l e R s m args below meth c H locs ce sl 0 0 (F0 m q ls (cx ++ ct)) ct (y_Q cls D X cw H.size cx.reverse.toArray) (va_A cw H.size) := by
          intro cm hM hok1 X hRm hpre hMet
          obtain ⟨o0, o3⟩ := z_and hok1
          obtain ⟨o1, o2⟩ := z_and o3
          obtain ⟨m1, m2, m3, m4, m5, m6⟩ := hM
          have m7 := m6 (z_le_of o0)
          rcases y_bool o2 with ⟨_, o4⟩ | ⟨_, o4⟩
          · split at o4
            · rename_i a' b' y' hh hnw
              obtain ⟨o5, o6⟩ := z_and o4
              obtain ⟨o5, o7⟩ := z_and o5
              have o5 := of_decide_eq_true o5
              have o6 := of_decide_eq_true o6
              have o7 := of_decide_eq_true o7
              subst o5
              subst o6
              subst o7
              exact va_runSN (As := cx.reverse) (rest := ct) ⟨hx, hb, hml, hown, hts⟩ hMet ⟨va_cnB (x2 % 100) hts (y_goodIn m1) rfl hRm.2.2.1 hRm.2.2.2 (hN.1.1 _ _ _ _ (List.mem_of_getElem? hnw)) (hts _ m2) ⟨m4.1, m4.2, of_decide_eq_true o1⟩ hRm.2.1, hts _ m7, trivial⟩ hpre rfl hlenA hlv.1 (by rw [List.reverse_reverse]) (lv_room hRm.1) hdg hcs
            · cases o4
          · exact va_runS (As := cx.reverse) (rest := ct) ⟨hx, hb, hml, hown, hts⟩ hMet (va_cwS (x2 % 100) hts (y_goodS m1 (z_w_ok o4) m7 m2) rfl hRm.2.2.1 hRm.2.2.2 ⟨m4.1, m4.2, of_decide_eq_true o1⟩ hRm.2.1) hpre rfl hlenA hlv.1 (by rw [List.reverse_reverse]) (lv_room hRm.1) hdg hcs
        have hokI : cond (Nat.ble 2000 x2) (z_w wt x3 (.methodLink (y_y mr).cls j (y_natn x2))) (y_cal tb x1 x2 fun cm => y_oks wt nw mr j x2 x3 cm) = true := hokI
        rw [hb0, cond_false] at hokI
        unfold y_cal at hokI
        rcases y_bool hevP with ⟨hb1, hev1⟩ | ⟨hb1, hev1⟩
        · obtain ⟨cn, hcn, hev3⟩ := z_opl_ok hev1
          rw [hb1, cond_true] at hokI
          obtain ⟨cn', hcn', hok1⟩ := z_opl_ok hokI
          rw [hcn] at hcn'
          cases hcn'
          exact y_con_ok hKs (hC x1 cn hcn) hF hFm hSt hev3 hav hSR2 (hRun cn.1 (hA.2.2.2 x1 cn hcn) hok1) hKont
        · obtain ⟨cm, hcm, hev3⟩ := z_opl_ok hev1
          rw [hb1, cond_false] at hokI
          obtain ⟨cm', hcm', hok1⟩ := z_opl_ok hokI
          rw [hcm] at hcm'
          cases hcm'
          have hMM := hA.2.2.1 x1 cm hcm
          exact y_inl_ok hS hF hFm hSt hMM.1 hMM.2 hev3 hav hSR2 (hRun cm hMM.1 hok1) hKont
      | lastore =>
        have hev : y_h_lastore tb (y_ev hn tb fu) sp mr q x1 x2 x3 r lo st n env h k = true := hev
        unfold y_h_lastore at hev
        have hdg := y_dl hdg hlen rfl
        obtain ⟨w1, st0, rfl, hev_156⟩ := y_pop1_ok hev
        obtain ⟨j1, st1, rfl, hev_157⟩ := y_pop1_ok hev_156
        obtain ⟨a1, t, rfl, hev_158⟩ := y_pop1_ok hev_157
        obtain ⟨v3, c0, rfl, g3, hSR0⟩ := y_SR_cons hSR
        obtain ⟨v2, c1, rfl, g2, hSR1⟩ := y_SR_cons hSR0
        obtain ⟨v1, c2, rfl, g1, hSR2⟩ := y_SR_cons hSR1
        obtain ⟨kd, i, pp, a, t1, t2, rfl, t4, t5, hev_159⟩ := y_rcv_ok hev_158 he g1
        obtain ⟨hwa, hev_160⟩ := z_cond hev_159
        obtain ⟨hwa, hL⟩ := z_and hwa
        obtain ⟨hwa, hwl⟩ := z_and hwa
        obtain ⟨xl, rfl⟩ := y_isL_ok hL g3
        obtain ⟨dy, hdy, hdy2⟩ := hW.2.1
        have hk0 := y_arr_0 hev_160
        obtain ⟨qq, ln, ty, o1', hev_161⟩ := y_arr_ok hev_160 t1 t4 hdy
        obtain ⟨hk, hev_162⟩ := z_cond hev_161
        have hk := Nat.eq_of_beq_eq_true hk
        subst hk
        obtain ⟨cA, d, t0, r1, r2, r3⟩ := y_crow hW had t2 o1'
        obtain ⟨gg, rfl⟩ := r3
        obtain ⟨x, rfl, ij⟩ := y_isI_ok (y_ix_int hev_162) g2
        obtain ⟨j', _, hin, hlt, _, hev_163⟩ := y_ix_ok hev_162 he ij
        refine va_last hx hb hK hP hD hS0 pp t0 r1 r2 hin hdg (fun H1 locs1 hP1 hD1 hS1 => ?_)
        have hso : y_same tb.1.length tb.2.2.2.2.2 cw (cw.set pp (a, .inl (cA, ln, .inr (.inl (vp_updL gg x.toNatClampNeg xl))))) := y_same_row r1 (fun z => y_was hwa t1 hps0 z) (fun z => y_wat hwa t1 hk0 z)
        have hax' : y_axr tb ρ b (cw.set pp (a, .inl (cA, ln, .inr (.inl (vp_updL gg x.toNatClampNeg xl))))) h.2.2.1 := by
          intro qa hqa
          obtain ⟨z0, p1, a1', cA1, l1, f1, x1', z1, z2, z3⟩ := hax qa hqa
          by_cases hp : pp = p1
          · subst hp
            rw [r1] at z2
            cases z2
          · exact ⟨z0, p1, a1', cA1, l1, f1, x1', z1, by rw [List.getElem?_set_ne hp]; exact z2, z3⟩
        exact go hev_163 hr hle0 ⟨hK, hP1, hD1, hS1, by rw [z_fst_set r1]; exact had, y_WT_set hW r1 o1' ⟨rfl, ⟨t0, r2⟩, ⟨_, rfl⟩⟩, y_KL_same hKK (y_same_row r1 (fun z => y_wasP hwa hwl t1 hps0 z) (fun z => y_wat hwa t1 hk0 z)), y_same_trans hsame hso, he, hrl, y_fxr_row hfx r1, hax', hnl, hps, hps0⟩ ⟨⟨lv, hlv, hLR⟩, hSR2⟩
      | bastore =>
        have hev : y_h_bastore tb (y_ev hn tb fu) sp mr q x1 x2 x3 r lo st n env h k = true := hev
        unfold y_h_bastore at hev
        have hdg := y_dl hdg hlen rfl
        obtain ⟨w1, st0, rfl, hev_164⟩ := y_pop1_ok hev
        obtain ⟨j1, st1, rfl, hev_165⟩ := y_pop1_ok hev_164
        obtain ⟨a1, t, rfl, hev_166⟩ := y_pop1_ok hev_165
        obtain ⟨v3, c0, rfl, g3, hSR0⟩ := y_SR_cons hSR
        obtain ⟨v2, c1, rfl, g2, hSR1⟩ := y_SR_cons hSR0
        obtain ⟨v1, c2, rfl, g1, hSR2⟩ := y_SR_cons hSR1
        rcases Bool.or_eq_true_iff.mp hev_166 with hevA | hevA
        · obtain ⟨xv, rfl, i3⟩ := y_isI_ok (y_dm_int hevA) g3
          obtain ⟨E, d1, hevB⟩ := y_dm_ok hevA he i3
          obtain ⟨d2, hevC⟩ := z_cond hevB
          obtain ⟨pp, adr, cA, ln, f, t0, x, ty, h', rfl, rfl, r1, r2, r3, r4, r5, hevD, r6⟩ := y_sto_ok (by decide) hevC hSt g1 g2 g3
          have hnar : vp_nar .boolean xv = xv := by
            rcases y_bit (y_sub_ok d2 d1) with rfl | rfl
            · decide
            · decide
          refine va_zast hx hb hK hP hD hS0 pp t0 r1 r2 r3 hdg (fun H1 locs1 hP1 hD1 hS1 => ?_)
          rw [hnar] at hP1 hD1
          exact go hevD hr hle0 (r6 xv H1 locs1 rfl hP1 hD1 hS1) ⟨⟨lv, hlv, hLR⟩, hSR2⟩
        · obtain ⟨_, _, _, hevB⟩ := y_pop1_ok hevA
          obtain ⟨kd, i, pp, adr, t1, t2, rfl, t4, t5, hevC⟩ := y_rcv_ok hevB he g1
          obtain ⟨hwa, hevD⟩ := z_cond hevC
          obtain ⟨hwa, hI⟩ := z_and hwa
          obtain ⟨hwa, hwl⟩ := z_and hwa
          obtain ⟨xv, rfl, i3⟩ := y_isI_ok hI g3
          obtain ⟨dy, hdy, hdy2⟩ := hW.2.1
          have hk0 := y_arr_0 hevD
          obtain ⟨qq, ln, ty, o1', hevE⟩ := y_arr_ok hevD t1 t4 hdy
          obtain ⟨hk, hevF⟩ := z_cond hevE
          obtain ⟨hk, hE⟩ := z_and hk
          have hk := Nat.eq_of_beq_eq_true hk
          subst hk
          obtain ⟨cA, d, t0, r1, r2, r3⟩ := y_crow hW had t2 o1'
          obtain ⟨f, rfl, r5⟩ := r3
          obtain ⟨x, rfl, ij⟩ := y_isI_ok (y_ix_int hevF) g2
          obtain ⟨j', ij', x1', x2', x3', hevG⟩ := y_ix_ok hevF he ij
          obtain ⟨ax', k1, k2⟩ := y_ka_ok kd i j' h.2.2.1
          have hevH := (k1 _).symm.trans hevG
          refine va_bast hx hb hK hP hD hS0 pp t0 r1 r2 x1' hdg (fun H1 locs1 hP1 hD1 hS1 => ?_)
          have hso : y_same tb.1.length tb.2.2.2.2.2 cw (cw.set pp (adr, .inl (cA, ln, .inl (upd f x.toNatClampNeg (vp_nar .byte xv))))) := y_same_row r1 (fun z => y_was hwa t1 hps0 z) (fun z => y_wat hwa t1 hk0 z)
          have hax' := y_axr_row (v := w1) (g' := upd f x.toNatClampNeg (vp_nar .byte xv)) hax k2 t1 hk0 hps0 r1 ij' x3' (fun m hm => by simp [upd, hm])
          have hv : y_tv tb (cw.map Prod.fst) (y_tg ρ) ty (.int (vp_nar .byte xv)) := by
            match ty, hE with
            | .inl E, hE => exact ⟨_, rfl, y_sub_ok hE (y_byr xv)⟩
          refine go hevH hr hle0 ⟨hK, hP1, hD1, hS1, by rw [z_fst_set r1]; exact had, y_WT_set hW r1 o1' ⟨rfl, ⟨t0, r2⟩, ⟨_, rfl, fun jj hjj => ?_⟩⟩, y_KL_same hKK (y_same_row r1 (fun z => y_wasP hwa hwl t1 hps0 z) (fun z => y_wat hwa t1 hk0 z)), y_same_trans hsame hso, he, hrl, y_fxr_row hfx r1, hax', hnl, hps, hps0⟩ ⟨⟨lv, hlv, hLR⟩, hSR2⟩
          by_cases hjx : jj = x.toNatClampNeg
          · rw [hjx, show upd f x.toNatClampNeg (vp_nar .byte xv) x.toNatClampNeg = vp_nar .byte xv from if_pos rfl]
            exact hv
          · rw [show upd f x.toNatClampNeg (vp_nar .byte xv) jj = f jj from if_neg hjx]
            exact r5 jj hjj
      | tableswitch d l0 h0 offs =>
        have hev : y_h_tableswitch d l0 h0 offs tb (y_ev hn tb fu) sp mr q x1 x2 x3 r lo st n env h k = true := hev
        unfold y_h_tableswitch at hev
        obtain ⟨a, t, rfl, hev_167⟩ := y_pop1_ok hev
        obtain ⟨v1, c2, rfl, g1, hSR1⟩ := y_SR_cons hSR
        obtain ⟨a'', hk', hi'⟩ := y_rs_int hev_167
        obtain ⟨x, rfl, i1⟩ := y_isI_ok (hi' (y_ks_int hk')) g1
        obtain ⟨a', ia, hevA⟩ := y_rs_ok hev_167 he i1
        rcases y_ks_ok hevA with ⟨u, rfl, hevB⟩ | ⟨jj, rfl, hevB⟩
        · have ia : x = nI u := ia
          subst ia
          rcases y_bool hevB with ⟨hc, hevC⟩ | ⟨hc, hevC⟩
          · obtain ⟨tg, ht, hevD⟩ := z_to_ok hevC
            rw [Bool.or_eq_true] at hc
            exact lv_tableOut hx hb hdg (hc.imp of_decide_eq_true of_decide_eq_true) ht (go hevD (hj _) hle0 hSt ⟨⟨lv, hlv, hLR⟩, hSR1⟩)
          · obtain ⟨of, ho, hevD⟩ := z_op_ok hevC
            obtain ⟨tg, ht, hevE⟩ := z_to_ok hevD
            rw [Bool.or_eq_false_iff] at hc
            exact lv_tableIn hx hb hdg (of_decide_eq_false hc.1) (of_decide_eq_false hc.2) ho ht (go hevE (hj _) hle0 hSt ⟨⟨lv, hlv, hLR⟩, hSR1⟩)
        · obtain ⟨hb1, hb2⟩ := z_and hevB
          obtain ⟨tg, ht, hevC⟩ := z_to_ok hb1
          obtain ⟨hc1, hc2⟩ := z_and hevC
          rw [z_frc_eq] at hc1 hc2
          have hok2 : and (and (decide (-2147483648 ≤ l0)) (decide (l0 ≤ h0))) (and (decide (h0 ≤ 2147483647)) (decide ((offs.size : Int) = h0 - l0 + 1))) = true := hokI
          obtain ⟨p1, p2⟩ := z_and hok2
          obtain ⟨p1, p3⟩ := z_and p1
          obtain ⟨p2, p4⟩ := z_and p2
          have p1 := of_decide_eq_true p1
          have p2 := of_decide_eq_true p2
          have p3 := of_decide_eq_true p3
          have p4 := of_decide_eq_true p4
          have hbx := z_b_int x
          have hl0 := y_b_of p1 (by omega : l0 ≤ 2147483647)
          have hh0 := y_b_of (by omega : -2147483648 ≤ h0) p2
          by_cases d1 : x.toInt < l0
          · obtain ⟨e0, he0', hevD⟩ := y_lt_ok hc1 he ia (show y_gi (y_sg ρ) (.inl (z_un (Int32.ofInt l0))) (Int32.ofInt l0) from (z_nI_un _).symm) (by omega)
            obtain ⟨e1, he1, hevE⟩ := y_pr_ok hrl hevD he0'
            exact lv_tableOut hx hb hdg (Or.inl d1) ht (go hevE (hj _) hle0 ⟨hK, hP, hD, hS0, had, hW, hKK, hsame, he1, hrl, hfx, hax, hnl, hps, hps0⟩ ⟨⟨lv, hlv, hLR⟩, hSR1⟩)
          · by_cases d2 : h0 < x.toInt
            · obtain ⟨e0, he0', hevD⟩ := y_lt_ok hc2 he (show y_gi (y_sg ρ) (.inl (z_un (Int32.ofInt h0))) (Int32.ofInt h0) from (z_nI_un _).symm) ia (by omega)
              obtain ⟨e1, he1, hevE⟩ := y_pr_ok hrl hevD he0'
              exact lv_tableOut hx hb hdg (Or.inr d2) ht (go hevE (hj _) hle0 ⟨hK, hP, hD, hS0, had, hW, hKK, hsame, he1, hrl, hfx, hax, hnl, hps, hps0⟩ ⟨⟨lv, hlv, hLR⟩, hSR1⟩)
            · obtain ⟨of, ho, tg2, ht2, e1, he1, hevE⟩ := y_tsw_ok he hrl ia offs.toList 0 hb2 (x.toInt - l0).toNat (by omega) (by rw [Array.length_toList]; omega)
              exact lv_tableIn hx hb hdg d1 d2 (by rw [← Array.getElem?_toList]; exact ho) ht2 (go hevE (hj _) hle0 ⟨hK, hP, hD, hS0, had, hW, hKK, hsame, he1, hrl, hfx, hax, hnl, hps, hps0⟩ ⟨⟨lv, hlv, hLR⟩, hSR1⟩)
      | lookupswitch d ps =>
        have hev : y_h_lookupswitch d ps tb (y_ev hn tb fu) sp mr q x1 x2 x3 r lo st n env h k = true := hev
        unfold y_h_lookupswitch at hev
        obtain ⟨a, t, rfl, hev_168⟩ := y_pop1_ok hev
        obtain ⟨v1, c2, rfl, g1, hSR1⟩ := y_SR_cons hSR
        obtain ⟨hs, hev_169⟩ := z_cond hev_168
        obtain ⟨a'', hk', hi'⟩ := y_rs_int hev_169
        obtain ⟨x, rfl, i1⟩ := y_isI_ok (hi' (y_ks_int hk')) g1
        obtain ⟨a', ia, hevA⟩ := y_rs_ok hev_169 he i1
        rcases y_ks_ok hevA with ⟨u, rfl, hevB⟩ | ⟨jj, rfl, hevB⟩
        · have ia : x = nI u := ia
          subst ia
          obtain ⟨tg, ht, hevD⟩ := z_to_ok hevB
          exact lv_lookup hx hb hdg hs rfl ht (go hevD (hj _) hle0 hSt ⟨⟨lv, hlv, hLR⟩, hSR1⟩)
        · obtain ⟨hb1, hb2⟩ := z_and hevB
          obtain ⟨tg, ht, hevC⟩ := z_to_ok hb1
          rcases y_lsw_ok (d := d) he hrl ia ps.toList hb2 with ⟨tg2, ht2, e1, he1, hevE⟩ | hno
          · exact lv_lookup hx hb hdg hs rfl ht2 (go hevE (hj _) hle0 ⟨hK, hP, hD, hS0, had, hW, hKK, hsame, he1, hrl, hfx, hax, hnl, hps, hps0⟩ ⟨⟨lv, hlv, hLR⟩, hSR1⟩)
          · exact lv_lookup hx hb hdg hs (z_off hno) ht (go hevC (hj _) hle0 hSt ⟨⟨lv, hlv, hLR⟩, hSR1⟩)
      | aaload =>
        have hev : y_h_aaload tb (y_ev hn tb fu) sp mr q x1 x2 x3 r lo st n env h k = true := hev
        unfold y_h_aaload at hev
        have hdg := y_dl hdg hlen rfl
        obtain ⟨j1, st1, rfl, hev_170⟩ := y_pop1_ok hev
        obtain ⟨a1, t, rfl, hev_171⟩ := y_pop1_ok hev_170
        obtain ⟨v2, c1, rfl, g2, hSR1⟩ := y_SR_cons hSR
        obtain ⟨v1, c2, rfl, g1, hSR2⟩ := y_SR_cons hSR1
        obtain ⟨kd, i, pp, a, t1, t2, rfl, t4, t5, hev_172⟩ := y_rcv_ok hev_171 he g1
        obtain ⟨dy, hdy, hdy2⟩ := hW.2.1
        obtain ⟨qq, ln, ty, o1', hev_173⟩ := y_arr_ok hev_172 t1 t4 hdy
        obtain ⟨hk, hev_174⟩ := z_cond hev_173
        have hk := z_le_of hk
        obtain ⟨q4, rfl⟩ : ∃ k, qq = k + 4 := ⟨qq - 4, by omega⟩
        obtain ⟨cA, d, t0, r1, r2, r3⟩ := y_crow hW had t2 o1'
        obtain ⟨x, rfl, ij⟩ := y_isI_ok (y_ix_int hev_174) g2
        obtain ⟨j', ij', hin, hlt, hz, hevA⟩ := y_ix_ok hev_174 he ij
        rcases ty with E | ks | mm
        · exact absurd (show false = true from hevA) Bool.false_ne_true
        · obtain ⟨g, rfl, r4⟩ := r3
          rcases j' with u | w
          · obtain ⟨hu, hevB⟩ := z_cond hevA
            obtain ⟨ka, h1, hevC⟩ := z_opl_ok hevB
            have ij' : x = nI u := ij'
            subst ij'
            have hz2 : (nI u).toNatClampNeg = u := by
              rw [z_b_nI] at hz
              unfold z_bu at hz
              have hu := z_lt_of hu
              omega
            obtain ⟨k', a', s1, s2, s3⟩ := r4 _ hlt
            rw [hz2, h1] at s1
            cases s1
            refine va_aldq hx hb hK hP pp t0 r1 r2 hin hdg ?_
            rw [s3]
            exact go hevC hr hle0 hSt ⟨⟨lv, hlv, hLR⟩, ⟨a', by rw [had]; exact s2, rfl⟩, hSR2⟩
          · exact absurd (show false = true from hevA) Bool.false_ne_true
        · rcases mm with _ | _ | mm
          · exact absurd (show false = true from hevA) Bool.false_ne_true
          · obtain ⟨g, rfl, r4⟩ := r3
            have HW := r4 _ hlt
            rw [← had] at HW
            have hevN : y_nv (.inr (.inr 1)) n env (fun v n env => y_ev hn tb fu sp mr r (q + 1) lo (v :: t) n env h k) = true := hevA
            obtain ⟨ρ', v, n', env', q1, q2, q3, q4', q5, q6, q7, hevB⟩ := y_nv_ok (b := b) hevN hnl hps hps0 he HW
            have hSt' : y_St cls D K tb b s A cw0 ρ' H locs cw tys n' env' h := ⟨hK, hP, hD, hS0, by rw [q2]; exact had, by rw [q3]; exact hW, y_KL_mono q1 hKK, hsame, q6, y_rrel_mono q1.1 hrl, y_fxr_mono q1 hfx, y_axr_mono q1 hax, q4', q5.1, q5.2⟩
            exact va_aldq hx hb hK hP pp t0 r1 r2 hin hdg (go hevB hr (y_rle_trans hle0 q1) hSt' ⟨⟨lv, hlv, y_LR_mono (fun _ _ => y_g_mono q1) hLR⟩, q7, y_SR_mono (fun _ _ => y_g_mono q1) hSR2⟩)
          · exact absurd (show false = true from hevA) Bool.false_ne_true
      | goto o =>
        have hev : y_h_goto o tb (y_ev hn tb fu) sp mr q x1 x2 x3 r lo st n env h k = true := hev
        unfold y_h_goto at hev
        have hdg := y_dl hdg hlen rfl
        exact lv_goto hx hb hdg (of_decide_eq_true hokI) (go hev (hj _) hle0 hSt hFr)
      | ifCond cd o =>
        have hev : y_h_ifCond cd o tb (y_ev hn tb fu) sp mr q x1 x2 x3 r lo st n env h k = true := hev
        unfold y_h_ifCond at hev
        have hdg := y_dl hdg hlen rfl
        obtain ⟨a, t, rfl, hev_175⟩ := y_pop1_ok hev
        obtain ⟨v1, c2, rfl, g1, hSR1⟩ := y_SR_cons hSR
        obtain ⟨h1, hev_176⟩ := z_cond hev_175
        obtain ⟨x, rfl, i1⟩ := y_isI_ok h1 g1
        obtain ⟨k1, k2⟩ := y_br_ok hev_176 he hrl i1 (show y_gi (y_sg ρ) (.inl 0) 0 from rfl)
        refine z_if0 hx hb hdg (of_decide_eq_true hokI) (fun z => ?_) (fun z => ?_)
        · obtain ⟨e1, he1, hev_176⟩ := k1 z
          exact go hev_176 (hj _) hle0 ⟨hK, hP, hD, hS0, had, hW, hKK, hsame, he1, hrl, hfx, hax, hnl, hps, hps0⟩ ⟨⟨lv, hlv, hLR⟩, hSR1⟩
        · obtain ⟨e1, he1, hev_176⟩ := k2 z
          exact go hev_176 hr hle0 ⟨hK, hP, hD, hS0, had, hW, hKK, hsame, he1, hrl, hfx, hax, hnl, hps, hps0⟩ ⟨⟨lv, hlv, hLR⟩, hSR1⟩
      | if_icmp cd o =>
        have hev : y_h_if_icmp cd o tb (y_ev hn tb fu) sp mr q x1 x2 x3 r lo st n env h k = true := hev
        unfold y_h_if_icmp at hev
        have hdg := y_dl hdg hlen rfl
        obtain ⟨b1, st1, rfl, hev_177⟩ := y_pop1_ok hev
        obtain ⟨a, t, rfl, hev_178⟩ := y_pop1_ok hev_177
        obtain ⟨v2, c1, rfl, g2, hSR0⟩ := y_SR_cons hSR
        obtain ⟨v1, c2, rfl, g1, hSR1⟩ := y_SR_cons hSR0
        obtain ⟨h1, hev_179⟩ := z_cond hev_178
        obtain ⟨h1, h2⟩ := z_and h1
        obtain ⟨x, rfl, i1⟩ := y_isI_ok h1 g1
        obtain ⟨y, rfl, i2⟩ := y_isI_ok h2 g2
        obtain ⟨k1, k2⟩ := y_br_ok hev_179 he hrl i1 i2
        refine z_icmp hx hb hdg (of_decide_eq_true hokI) (fun z => ?_) (fun z => ?_)
        · obtain ⟨e1, he1, hev_179⟩ := k1 z
          exact go hev_179 (hj _) hle0 ⟨hK, hP, hD, hS0, had, hW, hKK, hsame, he1, hrl, hfx, hax, hnl, hps, hps0⟩ ⟨⟨lv, hlv, hLR⟩, hSR1⟩
        · obtain ⟨e1, he1, hev_179⟩ := k2 z
          exact go hev_179 hr hle0 ⟨hK, hP, hD, hS0, had, hW, hKK, hsame, he1, hrl, hfx, hax, hnl, hps, hps0⟩ ⟨⟨lv, hlv, hLR⟩, hSR1⟩
      | ireturn =>
        have hev : y_h_ireturn tb (y_ev hn tb fu) sp mr q x1 x2 x3 r lo st n env h k = true := hev
        unfold y_h_ireturn at hev
        have hdg := y_dl hdg hlen rfl
        obtain ⟨a, t, rfl, hev_180⟩ := y_pop1_ok hev
        obtain ⟨h1, hev_181⟩ := z_cond hev_180
        obtain ⟨h1, h2⟩ := z_and h1
        obtain ⟨v1, c2, rfl, g1, hSR1⟩ := y_SR_cons hSR
        cases t with
        | cons _ _ => cases h1
        | nil =>
          have hc2 := y_SR_nil hSR1
          subst hc2
          refine hend ρ H locs cw tys ls _ q n env h (some a) hle0 hSt hev_181 (Or.inr (Or.inl ?_))
          unfold y_rti at h2
          split at h2
          · rename_i hrt
            obtain ⟨x, rfl, _⟩ := y_isI_ok h2 g1
            exact ⟨a, x, .int, rfl, rfl, g1, hrt, rfl, hdg⟩
          · rename_i hrt
            have hI : y_isI a = true := by
              cases a with
              | inl u => rfl
              | inr r =>
                cases r with
                | inl i => rfl
                | inr _ => cases h2
            obtain ⟨x, rfl, i1⟩ := y_isI_ok hI g1
            obtain ⟨E, d1, d2⟩ := y_dm_ok h2 he i1
            rcases y_bit (y_sub_ok d2 d1) with rfl | rfl
            · exact ⟨a, 0, .boolean, rfl, rfl, g1, hrt, by decide, hdg⟩
            · exact ⟨a, 1, .boolean, rfl, rfl, g1, hrt, by decide, hdg⟩
          · rename_i hrt
            have hI : y_isI a = true := by
              cases a with
              | inl u => rfl
              | inr r =>
                cases r with
                | inl i => rfl
                | inr _ => cases h2
            obtain ⟨x, rfl, i1⟩ := y_isI_ok hI g1
            obtain ⟨E, d1, d2⟩ := y_dm_ok h2 he i1
            have hz := y_zero (y_in_pt (y_sub_ok d2 d1))
            subst hz
            exact ⟨a, 0, .byte, rfl, rfl, g1, hrt, by decide, hdg⟩
          · rename_i hrt
            have hI : y_isI a = true := by
              cases a with
              | inl u => rfl
              | inr r =>
                cases r with
                | inl i => rfl
                | inr _ => cases h2
            obtain ⟨x, rfl, i1⟩ := y_isI_ok hI g1
            obtain ⟨E, d1, d2⟩ := y_dm_ok h2 he i1
            exact ⟨a, x, .char, rfl, rfl, g1, hrt, y_char (y_sub_ok d2 d1), hdg⟩
          · cases h2
      | return_ =>
        have hev : y_h_return_ tb (y_ev hn tb fu) sp mr q x1 x2 x3 r lo st n env h k = true := hev
        unfold y_h_return_ at hev
        have hdg := y_dl hdg hlen rfl
        obtain ⟨h1, hev_182⟩ := z_cond hev
        obtain ⟨h1, h2⟩ := z_and h1
        cases st with
        | cons a0 t0 => cases h1
        | nil =>
          cases hrt : y_rt mr with
          | some ty => rw [hrt] at h2; cases h2
          | none =>
            have hc2 := y_SR_nil hSR
            subst hc2
            exact hend ρ H locs cw tys ls _ q n env h none hle0 hSt hev_182 (Or.inl ⟨rfl, rfl, hrt, hdg⟩)
      | _ => exact absurd (show false = true from hev) Bool.false_ne_true
    rcases y_bool hev with ⟨_, hev⟩ | ⟨_, hev⟩
    · exact main ρ n env h hle0 hSt hFr hev
    · rcases y_bool hev with ⟨_, hev⟩ | ⟨_, hev⟩
      · exact hstop ρ H locs cw tys ls cst q lo st n env h hle0 hSt hFr hev
      · obtain ⟨hK, hP, hD, hS0, had, hW, hKK, hsame, he, hrl, hfx, hax, hnl, hps, hps0⟩ := id hSt
        obtain ⟨⟨lv, hlv, hLR⟩, hSR⟩ := id hFr
        obtain ⟨ρ', n', env', h', u1, u2, u3, u4, u5, u6, u7, u8, u9, u10, hev⟩ := hH fl lo st n env h _ ρ cw tys cst lv hKK had hW he hrl hfx hax hnl hps hps0 hLR hSR hev
        exact main ρ' n' env' h' (y_rle_trans hle0 u1) ⟨hK, hP, hD, hS0, by rw [u2]; exact had, by rw [u3]; exact hW, u10, hsame, u6, u7, u8, u9, u4, u5.1, u5.2⟩ ⟨⟨lv, hlv, y_LR_mono (fun _ _ => y_g_mono u1) hLR⟩, y_SR_mono (fun _ _ => y_g_mono u1) hSR⟩ hev
