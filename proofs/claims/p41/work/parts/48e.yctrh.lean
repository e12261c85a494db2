-- two more pieces of hints; contracts of which a piece is gone through by hand, with room for cells
section YP
variable {cls : List vw_C} {K : va_W → Prop} {tb : yTb} {b : Nat → Nat}
noncomputable def y_dv5 (A : yPl) : yPf := fun lo _ n env h k => y_plv [] env lo h.2.1 h.2.2.1 A fun v => y_nrm h.1 64 v 0 fun a e => cond (Nat.blt e 3) (y_frs 2 a h.1 fun s c => cond (y_is3 c) (y_sg1 s fun i => y_lk env i fun D => cond (y_sub D [(2147483648, 2147483671)]) (z_frc (n + 1) fun n' => z_frc (z_bu e) fun be => k n' ((n, [(be, be)]) :: env) ((5, v, .inl 3, i) :: (4, v, .inl 3, n) :: h.1, h.2)) false) false) false
theorem y_dv5_ok (A : yPl) : y_H1 cls K (y_dv5 A) tb b := by
  intro lo st n env h k ρ cw tys cst lv hK had hW he hr hfx hax hnl hps hps0 hLR hSR hev
  obtain ⟨v, x, _, iv, hv1⟩ := y_plv_ok (gs := []) (show y_plv [] env lo h.2.1 h.2.2.1 A _ = true from hev) hLR (fun i v q => by simp at q) he hfx hax
  obtain ⟨a, e, xa, ia, ea, hv2⟩ := y_nrm_ok hr 64 hv1 iv
  obtain ⟨he3, hv3⟩ := z_cond hv2
  have he3 : e < 3 := Nat.le_of_ble_eq_true he3
  obtain ⟨s, c, xs, xc, is, ic, e2, hv4⟩ := y_frs_ok hv3 hr ia
  obtain ⟨h3, hv5⟩ := z_cond hv4
  obtain ⟨i, rfl, hv6⟩ := y_sg1_ok hv5
  obtain ⟨D, d1, hv7⟩ := y_lk_ok hv6 he is
  obtain ⟨hs, hv8⟩ := z_cond hv7
  rw [z_frc_eq, z_frc_eq] at hv8
  have hc3 : xc = 3 := by
    match c, h3, ic with
    | .inl u, h3, ic => rw [show xc = nI u from ic, Nat.eq_of_beq_eq_true h3]; decide
  have hb := y_sub_ok hs d1
  obtain ⟨kk, hk, hxs⟩ : ∃ kk, kk < 24 ∧ xs = nI kk := by
    rcases y_in_cons.mp hb with q | q
    · have q1 := q.1
      have q2 := q.2
      dsimp only at q1 q2
      refine ⟨z_b xs - 2147483648, by omega, ?_⟩
      apply Int32.toInt_inj.mp
      have i1 := z_b_int xs
      have i2 := z_b_int (nI (z_b xs - 2147483648))
      have i3 := z_b_nI (z_b xs - 2147483648)
      unfold z_bu at i3
      omega
    · exact absurd q y_in_nil
  obtain ⟨t1, t2⟩ := y_thr kk hk e he3
  have ex : x = 3 * nI kk + nI e := by
    have e2 : xa = xs * xc := e2
    rw [Int32.mul_comm] at e2
    rw [y_nI0, Int32.add_zero] at ea
    rw [ea, e2, hc3, hxs]
  refine y_add (x := nI e) (rl' := (5, v, .inl 3, i) :: (4, v, .inl 3, n) :: h.1) (ax' := h.2.2.1) hK he hfx hnl hps hps0 (y_in_z rfl) (fun ρ' u1 u6 => ?_) (fun ρ' u1 _ => y_axr_mono u1 hax) hv8
  have i3 : y_gi (y_sg ρ) (.inl 3) 3 := by show (3 : Int32) = nI 3; decide
  intro p hp
  rcases List.mem_cons.mp hp with rfl | hp
  · exact ⟨x, 3, y_gi_mono u1.1 iv, y_gi_mono u1.1 i3, by
      have := u1.1 _ _ (show (y_sg ρ)[i]? = some xs from is)
      rw [ex, t1, ← hxs]
      exact this⟩
  · exact y_rl1 (op := 4) hr u1.1 iv i3 (by rw [ex, t2]; exact u6) p hp
/-- a difference, noted -/
noncomputable def y_dfp (A B : yPl) : yPf := fun lo _ n env h k => y_plv [] env lo h.2.1 h.2.2.1 A fun a => y_plv [] env lo h.2.1 h.2.2.1 B fun c => y_bin 1 a c n env h.1 fun _ n env rl => k n env (rl, h.2)
theorem y_dfp_ok (A B : yPl) : y_H1 cls K (y_dfp A B) tb b := by
  intro lo st n env h k ρ cw tys cst lv hK had hW he hr hfx hax hnl hps hps0 hLR hSR hev
  obtain ⟨v, x, _, iv, hv1⟩ := y_plv_ok (gs := []) (show y_plv [] env lo h.2.1 h.2.2.1 A _ = true from hev) hLR (fun i v q => by simp at q) he hfx hax
  obtain ⟨w, y, _, iw, hv2⟩ := y_plv_ok (gs := []) hv1 hLR (fun i v q => by simp at q) he hfx hax
  obtain ⟨sg', v', n', env', rl', w1, w2, w3, w4, w5, hv3⟩ := y_bin_ok hv2 hnl he hr iv iw
  have hn' : n ≤ n' := by
    rw [← hnl, ← w2]
    exact y_le_len w1
  have q1 : y_rle ρ (sg', y_ps ρ, y_ad ρ, y_tg ρ) := ⟨w1, fun _ _ q => q, fun _ _ q => q, fun _ _ q => q⟩
  exact ⟨(sg', y_ps ρ, y_ad ρ, y_tg ρ), n', env', (rl', h.2), q1, rfl, rfl, w2, ⟨fun i z => hps i (by omega), hps0⟩, w3, w4, y_fxr_mono q1 hfx, y_axr_mono q1 hax, y_KL_mono q1 hK, hv3⟩
end YP
/-- heap, cells, types at a place within a method -/
def y_HS (cls : List vw_C) (D : va_G) (K : va_W → Prop) (tb : yTb) (s : State) (cw0 : va_W) (H : Heap) (locs : List Loc) (cw : va_W) (tys : List (ClassId × FieldType)) (tg : List yC) : Prop := va_K D cls tys s ∧ va_P D cls cw H ∧ va_D (va_A cw0 s.heap.size) cw ∧ va_S (va_A cw0 s.heap.size) s.heap H locs ∧ y_WT tb cls tys tg cw ∧ K cw ∧ y_same tb.1.length tb.2.2.2.2.2 cw0 cw
def y_ConH (wt : zTB) (nw : List Jvm.Cond) (cls : List vw_C) (l : Launch) (D : va_G) (K : va_W → Prop) (tb : yTb) (c : yCN) : Prop :=
  ∀ (b : Nat → Nat) (cw : va_W) (tys : List (ClassId × FieldType)) (tg : List yC) (sz : Nat) (av : List Value) (gs : List Int32), (lg_sl av).length ≤ y_mL c.1 → y_Ann tb.1.length (y_tv tb (cw.map Prod.fst) tg) [] (lv_args 0 av) cw c.2.1 → y_GS (y_pls tb.1.length [] (lv_args 0 av) cw) c.2.2.1 gs → y_WT tb cls tys tg cw → K cw → Met l (y_y c.1) (y_ws wt c.1) (y_rm c.1) (y_Pc nw b cls D cw tys sz av) (y_Q cls D (y_XC cls K tb c gs cw tg) cw sz) (y_rm c.1).cells (y_rm c.1).slots (va_A cw sz)
section YM
variable {wt : zTB} {nw : List Jvm.Cond} {cls : List vw_C} {hn : yHn} {tb : yTb} {l : Launch} {D : va_G} {K : va_W → Prop}
set_option maxHeartbeats 4000000 in
theorem y_ctrH {zty : List (Nat → FieldType)} {zdv : List (List zAV)} {F : Nat} (hA : y_All wt nw cls zty zdv tb) (hSh : ∀ c, c ∈ tb.1 ∨ c = tb.2.1 ∨ c = tb.2.2.1 → y_shc zty c) (hKs : y_Kst tb K) {c : yCN} (hC : ∀ (n : Nat) (cn : yCN), tb.2.2.2.2.1[n]? = some cn → (y_rm cn.1).frames < (y_rm c.1).frames → y_wle tb cn.2.2.2.2 = true → y_Con wt nw cls l D (fun cw => y_kc cn.2.2.2.2 = true → K cw) tb cn) (hH : ∀ b, y_Hint cls K hn tb b) (hM : y_okM wt cls c.1) (hcode : ∀ x ∈ y_cd c.1, y_okE wt nw cls tb c.1 x = true) (hwr : tb.2.2.2.2.2 = c.2.2.2.2) (cuts hcuts : List yCut) (L : Nat) (hL : ∀ κ ∈ cuts, κ.2.2.1.length = L) (hcd : ∀ κ ∈ cuts, ∀ x ∈ κ.2.2.2, ∃ y ∈ y_cd c.1, (x.1, x.2.1, x.2.2.1, x.2.2.2.1, x.2.2.2.2.1) = (y.1, y.2.1, y.2.2.1, y.2.2.2.1, y.2.2.2.2.1)) (fu : Nat) (hE : y_runE hn tb fu c (cuts ++ hcuts) = true) (hR : ∀ κ ∈ cuts, y_runC hn tb fu c cuts κ = true)
    (hHand : ∀ (b : Nat → Nat) (cw0 : va_W) (tg0 : List yC) (gs : List Int32) (av : List Value) (p : Program) (e : Env) (s : State) (m : MethodId) (below : List Frame) (meth : Method) (cd : Code) (Q : State → Prop), gs.length = c.2.2.1.length → y_Fix wt nw b cls tb p (y_rm c.1) s m av.toArray meth cd (va_A cw0 s.heap.size) c.1 → ∀ κ ∈ hcuts, ∀ (ms : List Nat) (H : Heap) (locs : List Loc) (cw : va_W) (tys : List (ClassId × FieldType)) (tg : List yC) (ls : Array Slot), y_At tb gs tg0 (y_mL c.1) κ ms ls cw tg → y_HS cls D K tb s cw0 H locs cw tys tg → (∀ κ' ∈ cuts, ∀ (ms : List Nat) (H : Heap) (locs : List Loc) (cw : va_W) (tys : List (ClassId × FieldType)) (tg : List yC) (ls : Array Slot), y_At tb gs tg0 (y_mL c.1) κ' ms ls cw tg → y_HS cls D K tb s cw0 H locs cw tys tg → W p l e (y_rm c.1) s m av.toArray below meth cd H locs (y_rm c.1).cells (y_rm c.1).slots Q (F0 m κ'.1 ls [])) → W p l e (y_rm c.1) s m av.toArray below meth cd H locs 0 0 Q (F0 m κ.1 ls [])) : y_ConH wt nw cls l D K tb c := by
  intro b cw0 tys0 tg0 sz av gs hlen hann hGS hW0 hK0
  have hS := y_snd (b := b) (F := (y_rm c.1).frames) hA hSh hKs hC (hH b) fu
  have hgl := y_GS_len hGS
  refine Met.ofW (cc := y_cc c.1) (maxL := y_mL c.1) (ret := y_rt c.1) hM.2.2.1 rfl ?_
  intro p e s m args below meth cd s₁ B hml hv
  obtain ⟨rfl, hsz, hP0, hKK0, hD0, hN⟩ := hv
  subst hsz
  have hD := hD0.self (sz := s.heap.size)
  have hts := atoms_spec (ws := y_ws wt c.1) B.pre
  have hl := lv_entry av (n := y_mL c.1) hlen
  rw [lg_entry_eq]
  have hFix : y_Fix wt nw b cls tb p (y_rm c.1) s m av.toArray meth cd (va_A cw0 s.heap.size) c.1 := ⟨B.exec, B.bytes, hml, findClass_of_methodNamed B.named, fun x hx => hts x (List.mem_cons_of_mem _ hx), rfl, hN, fun q h => Or.inr h, hcode⟩
  obtain ⟨Q, hQ⟩ : ∃ Q, Q = MQ below (y_Q cls D (y_XC cls K tb c gs cw0 tg0) cw0 s.heap.size) av.toArray s (y_rm c.1).cells (y_rm c.1).slots (va_A cw0 s.heap.size) := ⟨_, rfl⟩
  -- the ends
  have hEnd : ∀ (ce sl : Nat), ce ≤ (y_rm c.1).cells → sl ≤ (y_rm c.1).slots → ∀ ρ0 : yRo, (∀ (i : Nat) (x : Int32), gs[i]? = some x → (y_sg ρ0)[i]? = some x) → (∀ (p : Nat) (t : yC), tg0[p]? = some t → (y_tg ρ0)[p]? = some t) → y_End cls l D K tb b p e (y_rm c.1) s m av.toArray below meth cd (va_A cw0 s.heap.size) cw0 ρ0 ce sl c.1 Q (y_kK tb c) := by
    intro ce sl hce hsl ρ0 hgs htg ρ1 H locs cw1 tys1 ls cst pc n1 env1 h1 r hle hSt hk hret
    obtain ⟨hK1, hP1, hD1, hS1, had1, hW1, hKK1, hsame1, he1, hr1, hf1, hx1, hsl1, hps1, hps01⟩ := hSt
    have hg : y_GH (y_sg ρ1) (y_gl c.2.2.1 0) gs := y_gl_GH hgl (fun i x q => hle.1 _ _ (hgs i x q))
    obtain ⟨hlg1, hk⟩ := z_and hk
    have hKK1 := y_KL_nil hKs hlg1 hKK1
    obtain ⟨o, o1, o2⟩ := y_flor (f := fun o => y_kO tb (y_gl c.2.2.1 0) o env1 h1 r) hk
    have fin : ∀ rv : Option Value, y_RV (y_g tb ρ1 b) r rv → y_XC cls K tb c gs cw0 tg0 cw1 tys1 rv := by
      intro rv hrv
      refine ⟨y_tg ρ1, o, o1, ?_⟩
      have rest : y_facts tb.1.length cw1 o.2.1 ∧ y_AI tb.1.length (y_olv rv) cw1 gs o.2.2 → y_tro (y_tv tb (cw1.map Prod.fst) (y_tg ρ1)) o.1 rv → y_tro (y_tv tb (cw1.map Prod.fst) (y_tg ρ1)) o.1 rv ∧ y_facts tb.1.length cw1 o.2.1 ∧ y_AI tb.1.length (y_olv rv) cw1 gs o.2.2 ∧ (∀ (p : Nat) (t : yC), tg0[p]? = some t → (y_tg ρ1)[p]? = some t) ∧ y_same tb.1.length c.2.2.2.2 cw0 cw1 ∧ y_WT tb cls tys1 (y_tg ρ1) cw1 ∧ K cw1 := fun z1 z2 => ⟨z2, z1.1, z1.2, fun p t q => hle.2.2.2 p t (htg p t q), by rw [← hwr]; exact hsame1, hW1, hKK1⟩
      obtain ⟨ot, of, oi⟩ := o
      match ot, r, rv, o2, hrv with
      | none, none, none, o2, _ =>
        obtain ⟨z1, z2⟩ := z_and (show and (y_pre tb env1 h1.2.1 of) (y_entI [] env1 h1 oi (y_gl c.2.2.1 0)) = true from o2)
        exact rest ⟨y_pre_ok z1 he1 hf1, y_entI_ok (show y_LR (y_g tb ρ1 b) [] [] from trivial) he1 hr1 hf1 hx1 z2 hg⟩ trivial
      | some ty, some a, some v, o2, hrv =>
        obtain ⟨z0, z1⟩ := z_and (show and (y_fit ty env1 a) (and (y_pre tb env1 h1.2.1 of) (y_entI [(100, a)] env1 h1 oi (y_gl c.2.2.1 0))) = true from o2)
        obtain ⟨z1, z2⟩ := z_and z1
        refine rest ⟨y_pre_ok z1 he1 hf1, y_entI_ok (show y_LR (y_g tb ρ1 b) [(100, a)] [(100, v)] from ⟨⟨rfl, hrv⟩, trivial⟩) he1 hr1 hf1 hx1 z2 hg⟩ ?_
        have := y_fit_ok z0 hps01 he1 hrv
        rw [had1] at this
        exact this
      | none, some _, _, o2, _ => cases o2
      | some _, none, _, o2, _ => cases o2
      | none, none, some _, _, hrv => exact hrv.elim
      | some _, some _, none, _, hrv => exact hrv.elim
    have hlocks := B.notSynchronized
    rw [hQ]
    refine W.widen hce hsl ?_
    rcases hret with ⟨rfl, rfl, h3, h4⟩ | ⟨a, x, ty, rfl, rfl, h3, h4, h5, h6⟩ | ⟨a, v, ty, rfl, rfl, h3, h4, h5, h6, h7⟩ | ⟨a, x, rfl, rfl, h3, h4, h5⟩
    · exact W.vret B.exec B.bytes (by rw [B.returns]; exact h3) (fun t ht hW => ⟨⟨cw1, tys1, none, rfl, by rw [ht]; exact hP1, va_K.moved hW.alike hK1, hD1, fin _ trivial⟩, hS1.F ht⟩) hS1.2.2 h4
    · exact W.zret B.exec B.bytes (by rw [B.returns]; exact h4) h5 (fun t ht hW => ⟨⟨cw1, tys1, some (.int x), rfl, by rw [ht]; exact hP1, va_K.moved hW.alike hK1, hD1, fin _ h3⟩, hS1.F ht⟩) hS1.2.2 h6
    · exact W.aret B.exec B.bytes (by rw [B.returns]; exact h5) h6 h4 (fun t ht hW => ⟨⟨cw1, tys1, some v, rfl, by rw [ht]; exact hP1, va_K.moved hW.alike hK1, hD1, fin _ h3⟩, hS1.F ht⟩) hS1.2.2 h7
    · exact W.lret B.exec B.bytes (by rw [B.returns]; exact h4) (fun t ht hW => ⟨⟨cw1, tys1, some (.long x), rfl, by rw [ht]; exact hP1, va_K.moved hW.alike hK1, hD1, fin _ h3⟩, hS1.F ht⟩) hS1.2.2 h5
  -- the cuts
  have hCut : ∀ (N : Nat) (κ : yCut) (ms : List Nat) (H : Heap) (locs : List Loc) (cw : va_W) (tys : List (ClassId × FieldType)) (tg : List yC) (ls : Array Slot), y_enc ms < N → κ ∈ cuts → y_At tb gs tg0 (y_mL c.1) κ ms ls cw tg → va_K D cls tys s → va_P D cls cw H → va_D (va_A cw0 s.heap.size) cw → va_S (va_A cw0 s.heap.size) s.heap H locs → y_WT tb cls tys tg cw → K cw → y_same tb.1.length tb.2.2.2.2.2 cw0 cw → W p l e (y_rm c.1) s m av.toArray below meth cd H locs (y_rm c.1).cells (y_rm c.1).slots Q (F0 m κ.1 ls []) := by
    intro N
    induction N with
    | zero => intro κ ms H locs cw tys tg ls hlt; omega
    | succ N ih =>
      intro κ ms H locs cw tys tg ls hlt hκ hAt hK1 hP1 hD1 hS1 hW1 hKK1 hsm1
      obtain ⟨htg, lv, hlv, hann1, hRK⟩ := hAt
      obtain ⟨ρ, lo, lv', n, env, h', a1, a2, a3, a4, a5, a6, a7, a8, a9, a10, a11, a12, a14, a13⟩ := y_run_ok (b := b) (hR κ hκ) hgl ⟨hann1.1, hann1.2.1, trivial⟩ hann1.2.2
      have hlk : ∀ (j : Nat) (v : Value), lv'.lookup j = some v → lv.lookup j = some v := fun j v q => a5 _ (y_lookup_mem q)
      have hg : y_GH (y_sg ρ) (y_gl c.2.2.1 0) gs := y_gl_GH hgl a3
      obtain ⟨vs, ms0, v1, v2, v3⟩ := y_rkv_ok a4 hg.2 a6 a8 a9 a13
      have e0 := y_RK_fun hlk v2 hRK
      subst e0
      have hlv' : lv_has ls (y_mL c.1) lv' := ⟨hlv.1, hlv.2.1, fun q hq => hlv.2.2 q (y_lookup_mem (a5 q hq))⟩
      refine hS p e _ s m av.toArray below meth cd (va_A cw0 s.heap.size) cw0 ρ _ _ _ c.1 Q hFix (Nat.le_refl _) (Nat.le_refl _) (Nat.le_refl _) _ (hEnd _ _ (Nat.le_refl _) (Nat.le_refl _) ρ a3 (by rw [a2]; exact htg)) ?_ ρ H locs cw tys ls [] κ.2.2.2 κ.1 lo [] n env h' (hcd κ hκ) (y_rle_refl ρ) ⟨hK1, hP1, hD1, hS1, a1, by rw [a2]; exact hW1, by rw [a14]; exact y_KL_of hKK1, hsm1, a6, a7, a8, a9, a10, a11, a12⟩ ⟨⟨lv', hlv', a4⟩, trivial⟩ v3
      intro ρ2 H2 locs2 cw2 tys2 ls2 cst2 pc2 lo2 st2 n2 env2 h2 hle2 hSt2 hFr2 hsp2
      obtain ⟨hK2, hP2, hD2, hS2, had2, hW2, hKK2, hsm2, he2, hr2, hf2, hx2, hsl2, hps2, hps02⟩ := hSt2
      obtain ⟨hlg2, rfl, κ', k1, k2, ms', vs', k3, k4, k5⟩ := y_stp_ok hsp2 hgl (fun i x q => hle2.1 _ _ (a3 i x q)) (fun p t q => hle2.2.2.2 p t (by rw [a2]; exact htg p t q)) had2 he2 hr2 hf2 hx2 hps02 hFr2
      subst k2
      obtain ⟨_, lv3, _, _, hRK3⟩ := id k3
      have b1 := y_RK_b hRK3
      have b0 := y_RK_b hRK
      have hlt2 := y_lex_ok hr2 he2 k5 k4 (y_VM_mono hle2.1 v1) (by rw [b1.1, b0.1, hL κ' k1, hL κ hκ]) b1.2
      exact ih κ' ms' H2 locs2 cw2 tys2 (y_tg ρ2) ls2 (by omega) k1 k3 hK2 hP2 hD2 hS2 hW2 (y_KL_nil hKs hlg2 hKK2) hsm2
  -- the entry
  have hJ : y_AI tb.1.length (lv_args 0 av) cw0 gs ((y_ger c.2.2.1 0).map .inr) := y_AI_ger 0 hGS (fun k x q => by rw [Nat.zero_add]; exact q)
  obtain ⟨ρ, lo, lv', n, env, h', a1, a2, a3, a4, a5, a6, a7, a8, a9, a10, a11, a12, a14, a13⟩ := y_run_ok (b := b) hE hgl hann hJ
  have hlv' : lv_has _ (y_mL c.1) lv' := ⟨hl.1, hl.2.1, fun q hq => hl.2.2 q (y_lookup_mem (a5 q hq))⟩
  have goal : W p l e (y_rm c.1) s m av.toArray below meth cd s.heap [] 0 0 Q _ := hS p e _ s m av.toArray below meth cd (va_A cw0 s.heap.size) cw0 ρ 0 0 _ c.1 Q hFix (Nat.le_refl _) (Nat.zero_le _) (Nat.zero_le _) _ (hEnd 0 0 (Nat.zero_le _) (Nat.zero_le _) ρ a3 (by rw [a2]; exact fun _ _ q => q)) (fun ρ2 H2 locs2 cw2 tys2 ls2 cst2 pc2 lo2 st2 n2 env2 h2 hle2 hSt2 hFr2 hsp2 => by
      obtain ⟨hK2, hP2, hD2, hS2, had2, hW2, hKK2, hsm2, he2, hr2, hf2, hx2, hsl2, hps2, hps02⟩ := hSt2
      obtain ⟨hlg2, rfl, κ', k1, k2, ms', vs', k3, k4, k5⟩ := y_stp_ok hsp2 hgl (fun i x q => hle2.1 _ _ (a3 i x q)) (fun p t q => hle2.2.2.2 p t (by rw [a2]; exact q)) had2 he2 hr2 hf2 hx2 hps02 hFr2
      subst k2
      have hKn := y_KL_nil hKs hlg2 hKK2
      rcases List.mem_append.mp k1 with k1 | k1
      · exact W.widen (Nat.zero_le _) (Nat.zero_le _) (hCut (y_enc ms' + 1) κ' ms' H2 locs2 cw2 tys2 (y_tg ρ2) ls2 (by omega) k1 k3 hK2 hP2 hD2 hS2 hW2 hKn hsm2)
      · exact hHand b cw0 tg0 gs av p e s m below meth cd Q hgl hFix κ' k1 ms' H2 locs2 cw2 tys2 (y_tg ρ2) ls2 k3 ⟨hK2, hP2, hD2, hS2, hW2, hKn, hsm2⟩ (fun κ3 h3 ms3 H3 locs3 cw3 tys3 tg3 ls3 hAt3 hS3 => hCut (y_enc ms3 + 1) κ3 ms3 H3 locs3 cw3 tys3 tg3 ls3 (by omega) h3 hAt3 hS3.1 hS3.2.1 hS3.2.2.1 hS3.2.2.2.1 hS3.2.2.2.2.1 hS3.2.2.2.2.2.1 hS3.2.2.2.2.2.2)) ρ s.heap [] cw0 tys0 _ [] (y_cd c.1) 0 lo [] n env h' (fun x q => ⟨x, q, rfl⟩) (y_rle_refl ρ) ⟨hKK0, hP0, hD, va_S.rf, a1, by rw [a2]; exact hW0, by rw [a14]; exact y_KL_of hK0, y_same_refl _ _ _, a6, a7, a8, a9, a10, a11, a12⟩ ⟨⟨lv', hlv', a4⟩, trivial⟩ a13
  rw [hQ] at goal
  exact goal
end YM
