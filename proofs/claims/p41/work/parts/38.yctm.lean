-- contracts hold
section YM
variable {wt : zTB} {nw : List Jvm.Cond} {cls : List vw_C} {hn : yHn} {tb : yTb} {l : Launch} {D : va_G} {K : va_W → Prop}
theorem y_pls_gs {n0 : Nat} {gs : List Int32} {lv : List (Nat × Value)} {cw : va_W} {pl : yPl} {x : Int32} (h : y_pls n0 [] lv cw pl x) : y_pls n0 gs lv cw pl x := by
  obtain ⟨kd, a, f, rows⟩ := pl
  obtain ⟨z, g1, g2⟩ := h
  refine ⟨z, ?_, g2⟩
  match kd, g1 with
  | 0, g1 => exact g1
  | 1, g1 => exact g1
  | 2, g1 => exact g1
  | n + 3, g1 =>
    have g1 : ([] : List Int32)[a]? = some z := g1
    simp at g1
theorem y_AI_ger {n0 : Nat} {lv : List (Nat × Value)} {cw : va_W} : ∀ {G : List yPl} {xs : List Int32} (i : Nat) {gs : List Int32}, y_GS (y_pls n0 [] lv cw) G xs → (∀ (k : Nat) (x : Int32), xs[k]? = some x → gs[i + k]? = some x) → y_AI n0 lv cw gs ((y_ger G i).map .inr)
  | [], [], _, _, _, _ => trivial
  | g :: G, x :: xs, i, gs, ⟨h1, h2⟩, h3 => by
    refine ⟨x, x, y_pls_gs h1, ⟨x, h3 0 x rfl, rfl⟩, ?_, y_AI_ger (i + 1) h2 (fun k z hz => ?_)⟩
    · show y_in _ (z_b (x - x))
      rw [Int32.sub_self]
      exact y_in_iv (by decide) (by decide)
    · have := h3 (k + 1) z (by simpa using hz)
      rw [show i + 1 + k = i + (k + 1) from by omega, List.getElem?_append_left (List.getElem?_eq_some_iff.mp this).1]
      exact this
  | [], _ :: _, _, _, h, _ => h.elim
  | _ :: _, [], _, _, h, _ => h.elim
/-- a state at a cut -/
def y_At (tb : yTb) (gs : List Int32) (tg0 : List yC) (nL : Nat) (κ : yCut) (ms : List Nat) (ls : Array Slot) (cw : va_W) (tg : List yC) : Prop := (∀ (p : Nat) (t : yC), tg0[p]? = some t → tg[p]? = some t) ∧ ∃ lv, lv_has ls nL lv ∧ y_Ann tb.1.length (y_tv tb (cw.map Prod.fst) tg) gs lv cw κ.2.1 ∧ y_RK tb.1.length gs lv cw κ.2.2.1 ms
theorem y_stp_ok {G : List yPl} {cuts : List yCut} {f : List yR → yEnv → List (Nat × yV) → Bool} {b : Nat → Nat} {gs : List Int32} {tg0 : List yC} {nL : Nat} {ρ : yRo} {cw : va_W} {ls : Array Slot} {cst : List Value} {pc : Nat} {lo : yLo} {st : List yV} {n : Nat} {env : yEnv} {h : yHp} (hsp : y_stp tb G cuts f pc lo st n env h = true) (hgl : gs.length = G.length) (hgs : ∀ (i : Nat) (x : Int32), gs[i]? = some x → (y_sg ρ)[i]? = some x) (htg : ∀ (p : Nat) (t : yC), tg0[p]? = some t → (y_tg ρ)[p]? = some t) (had : y_ad ρ = cw.map Prod.fst) (he : y_erel (y_sg ρ) env) (hr : y_rrel (y_sg ρ) h.1) (hfx : y_fxr tb ρ b cw h.2.1) (hax : y_axr tb ρ b cw h.2.2.1) (h0 : ∀ i p, y_ps ρ i = some p → tb.1.length ≤ p) (hFr : y_Fr tb ρ b nL ls lo st cst) : y_eml h.2.2.2 = true ∧ cst = [] ∧ ∃ κ ∈ cuts, κ.1 = pc ∧ ∃ ms vs, y_At tb gs tg0 nL κ ms ls cw (y_tg ρ) ∧ y_VM (y_sg ρ) vs ms ∧ f h.1 env vs = true := by
  obtain ⟨h1, h2⟩ := z_and hsp
  obtain ⟨h1, hlg⟩ := z_and h1
  obtain ⟨⟨lv, hlv, hLR⟩, hSR⟩ := hFr
  have hst : st = [] := by
    cases st with
    | nil => rfl
    | cons _ _ => cases h1
  subst hst
  refine ⟨hlg, y_SR_nil hSR, ?_⟩
  obtain ⟨κ, k1, k2⟩ := y_flor (f := fun κ : yCut => and (Nat.beq κ.1 pc) (and (y_ent tb (y_gl G 0) κ.2.1 lo env h) (y_rkv (y_gl G 0) env lo h.2.1 h.2.2.1 κ.2.2.1 fun nw => f h.1 env nw))) h2
  obtain ⟨k2, k3⟩ := z_and k2
  obtain ⟨k3, k4⟩ := z_and k3
  have hg : y_GH (y_sg ρ) (y_gl G 0) gs := y_gl_GH hgl hgs
  have a1 := y_ent_ok k3 hLR hg h0 he hr hfx hax
  rw [had] at a1
  obtain ⟨vs, ms, m1, m2, m3⟩ := y_rkv_ok hLR hg.2 he hfx hax k4
  exact ⟨κ, k1, Nat.eq_of_beq_eq_true k2, ms, vs, ⟨htg, lv, hlv, a1, m2⟩, m1, m3⟩
set_option maxHeartbeats 4000000 in
theorem y_ctr {zty : List (Nat → FieldType)} {zdv : List (List zAV)} {F : Nat} (hA : y_All wt nw cls zty zdv tb) (hSh : ∀ c, c ∈ tb.1 ∨ c = tb.2.1 ∨ c = tb.2.2.1 → y_shc zty c) (hKs : y_Kst tb K) {c : yCN} (hC : ∀ (n : Nat) (cn : yCN), tb.2.2.2.2.1[n]? = some cn → (y_rm cn.1).frames < (y_rm c.1).frames → y_wle tb cn.2.2.2.2 = true → y_Con wt nw cls l D (fun cw => y_kc cn.2.2.2.2 = true → K cw) tb cn) (hH : ∀ b, y_Hint cls K hn tb b) (hM : y_okM wt cls c.1) (hcode : ∀ x ∈ y_cd c.1, y_okE wt nw cls tb c.1 x = true) (hwr : tb.2.2.2.2.2 = c.2.2.2.2) (cuts : List yCut) (L : Nat) (hL : ∀ κ ∈ cuts, κ.2.2.1.length = L) (hcd : ∀ κ ∈ cuts, ∀ x ∈ κ.2.2.2, ∃ y ∈ y_cd c.1, (x.1, x.2.1, x.2.2.1, x.2.2.2.1, x.2.2.2.2.1) = (y.1, y.2.1, y.2.2.1, y.2.2.2.1, y.2.2.2.2.1)) (fu : Nat) (hE : y_runE hn tb fu c cuts = true) (hR : ∀ κ ∈ cuts, y_runC hn tb fu c cuts κ = true) : y_Con wt nw cls l D K tb c := by
  intro b cw0 tys0 tg0 sz av gs hlen hann hGS hW0 hK0
  have hS := y_snd (b := b) (F := (y_rm c.1).frames) hA hSh hKs hC (hH b) fu
  have hgl := y_GS_len hGS
  refine Met.ofW (cc := y_cc c.1) (maxL := y_mL c.1) (ret := y_rt c.1) hM.2.2.1 rfl ?_
  intro p e s m args below meth cd s₁ B hml hv
  obtain ⟨rfl, hsz, hP0, hKK0, hD0, hN⟩ := hv
  subst hsz
  have hD := hD0.self (sz := s.heap.size)
  have hts := atoms_spec (ws := y_ws wt c.1) B.pre
  have hl := lv_entry av (n := y_mL c.1) hlen
  rw [lg_entry_eq]
  have hFix : y_Fix wt nw b cls tb p (y_rm c.1) s m av.toArray meth cd (va_A cw0 s.heap.size) c.1 := ⟨B.exec, B.bytes, hml, findClass_of_methodNamed B.named, fun x hx => hts x (List.mem_cons_of_mem _ hx), rfl, hN, fun q h => Or.inr h, hcode⟩
  obtain ⟨Q, hQ⟩ : ∃ Q, Q = MQ below (y_Q cls D (y_XC cls K tb c gs cw0 tg0) cw0 s.heap.size) av.toArray s 0 0 (va_A cw0 s.heap.size) := ⟨_, rfl⟩
  -- the ends
  have hEnd : ∀ ρ0 : yRo, (∀ (i : Nat) (x : Int32), gs[i]? = some x → (y_sg ρ0)[i]? = some x) → (∀ (p : Nat) (t : yC), tg0[p]? = some t → (y_tg ρ0)[p]? = some t) → y_End cls l D K tb b p e (y_rm c.1) s m av.toArray below meth cd (va_A cw0 s.heap.size) cw0 ρ0 0 0 c.1 Q (y_kK tb c) := by
    intro ρ0 hgs htg ρ1 H locs cw1 tys1 ls cst pc n1 env1 h1 r hle hSt hk hret
    obtain ⟨hK1, hP1, hD1, hS1, had1, hW1, hKK1, hsame1, he1, hr1, hf1, hx1, hsl1, hps1, hps01⟩ := hSt
    have hg : y_GH (y_sg ρ1) (y_gl c.2.2.1 0) gs := y_gl_GH hgl (fun i x q => hle.1 _ _ (hgs i x q))
    obtain ⟨hlg1, hk⟩ := z_and hk
    have hKK1 := y_KL_nil hKs hlg1 hKK1
    obtain ⟨o, o1, o2⟩ := y_flor (f := fun o => y_kO tb (y_gl c.2.2.1 0) o env1 h1 r) hk
    have fin : ∀ rv : Option Value, y_RV (y_g tb ρ1 b) r rv → y_XC cls K tb c gs cw0 tg0 cw1 tys1 rv := by
      intro rv hrv
      refine ⟨y_tg ρ1, o, o1, ?_⟩
      have rest : y_facts tb.1.length cw1 o.2.1 ∧ y_AI tb.1.length (y_olv rv) cw1 gs o.2.2 → y_tro (y_tv tb (cw1.map Prod.fst) (y_tg ρ1)) o.1 rv → y_tro (y_tv tb (cw1.map Prod.fst) (y_tg ρ1)) o.1 rv ∧ y_facts tb.1.length cw1 o.2.1 ∧ y_AI tb.1.length (y_olv rv) cw1 gs o.2.2 ∧ (∀ (p : Nat) (t : yC), tg0[p]? = some t → (y_tg ρ1)[p]? = some t) ∧ y_same tb.1.length c.2.2.2.2 cw0 cw1 ∧ y_WT tb cls tys1 (y_tg ρ1) cw1 ∧ K cw1 := fun z1 z2 => ⟨z2, z1.1, z1.2, fun p t q => hle.2.2.2 p t (htg p t q), by rw [← hwr]; exact hsame1, hW1, hKK1⟩
      obtain ⟨ot, of, oi⟩ := o
      match ot, r, rv, o2, hrv with
      | none, none, none, o2, _ =>
        obtain ⟨z1, z2⟩ := z_and (show and (y_pre tb env1 h1.2.1 of) (y_entI [] env1 h1 oi (y_gl c.2.2.1 0)) = true from o2)
        exact rest ⟨y_pre_ok z1 he1 hf1, y_entI_ok (show y_LR (y_g tb ρ1 b) [] [] from trivial) he1 hr1 hf1 hx1 z2 hg⟩ trivial
      | some ty, some a, some v, o2, hrv =>
        obtain ⟨z0, z1⟩ := z_and (show and (y_fit ty env1 a) (and (y_pre tb env1 h1.2.1 of) (y_entI [(100, a)] env1 h1 oi (y_gl c.2.2.1 0))) = true from o2)
        obtain ⟨z1, z2⟩ := z_and z1
        refine rest ⟨y_pre_ok z1 he1 hf1, y_entI_ok (show y_LR (y_g tb ρ1 b) [(100, a)] [(100, v)] from ⟨⟨rfl, hrv⟩, trivial⟩) he1 hr1 hf1 hx1 z2 hg⟩ ?_
        have := y_fit_ok z0 hps01 he1 hrv
        rw [had1] at this
        exact this
      | none, some _, _, o2, _ => cases o2
      | some _, none, _, o2, _ => cases o2
      | none, none, some _, _, hrv => exact hrv.elim
      | some _, some _, none, _, hrv => exact hrv.elim
    have hlocks := B.notSynchronized
    rw [hQ]
    rcases hret with ⟨rfl, rfl, h3, h4⟩ | ⟨a, x, ty, rfl, rfl, h3, h4, h5, h6⟩ | ⟨a, v, ty, rfl, rfl, h3, h4, h5, h6, h7⟩ | ⟨a, x, rfl, rfl, h3, h4, h5⟩
    · exact W.vret B.exec B.bytes (by rw [B.returns]; exact h3) (fun t ht hW => ⟨⟨cw1, tys1, none, rfl, by rw [ht]; exact hP1, va_K.moved hW.alike hK1, hD1, fin _ trivial⟩, hS1.F ht⟩) hS1.2.2 h4
    · exact W.zret B.exec B.bytes (by rw [B.returns]; exact h4) h5 (fun t ht hW => ⟨⟨cw1, tys1, some (.int x), rfl, by rw [ht]; exact hP1, va_K.moved hW.alike hK1, hD1, fin _ h3⟩, hS1.F ht⟩) hS1.2.2 h6
    · exact W.aret B.exec B.bytes (by rw [B.returns]; exact h5) h6 h4 (fun t ht hW => ⟨⟨cw1, tys1, some v, rfl, by rw [ht]; exact hP1, va_K.moved hW.alike hK1, hD1, fin _ h3⟩, hS1.F ht⟩) hS1.2.2 h7
    · exact W.lret B.exec B.bytes (by rw [B.returns]; exact h4) (fun t ht hW => ⟨⟨cw1, tys1, some (.long x), rfl, by rw [ht]; exact hP1, va_K.moved hW.alike hK1, hD1, fin _ h3⟩, hS1.F ht⟩) hS1.2.2 h5
  -- the cuts
  have hCut : ∀ (N : Nat) (κ : yCut) (ms : List Nat) (H : Heap) (locs : List Loc) (cw : va_W) (tys : List (ClassId × FieldType)) (tg : List yC) (ls : Array Slot), y_enc ms < N → κ ∈ cuts → y_At tb gs tg0 (y_mL c.1) κ ms ls cw tg → va_K D cls tys s → va_P D cls cw H → va_D (va_A cw0 s.heap.size) cw → va_S (va_A cw0 s.heap.size) s.heap H locs → y_WT tb cls tys tg cw → K cw → y_same tb.1.length tb.2.2.2.2.2 cw0 cw → W p l e (y_rm c.1) s m av.toArray below meth cd H locs 0 0 Q (F0 m κ.1 ls []) := by
    intro N
    induction N with
    | zero => intro κ ms H locs cw tys tg ls hlt; omega
    | succ N ih =>
      intro κ ms H locs cw tys tg ls hlt hκ hAt hK1 hP1 hD1 hS1 hW1 hKK1 hsm1
      obtain ⟨htg, lv, hlv, hann1, hRK⟩ := hAt
      obtain ⟨ρ, lo, lv', n, env, h', a1, a2, a3, a4, a5, a6, a7, a8, a9, a10, a11, a12, a14, a13⟩ := y_run_ok (b := b) (hR κ hκ) hgl ⟨hann1.1, hann1.2.1, trivial⟩ hann1.2.2
      have hlk : ∀ (j : Nat) (v : Value), lv'.lookup j = some v → lv.lookup j = some v := fun j v q => a5 _ (y_lookup_mem q)
      have hg : y_GH (y_sg ρ) (y_gl c.2.2.1 0) gs := y_gl_GH hgl a3
      obtain ⟨vs, ms0, v1, v2, v3⟩ := y_rkv_ok a4 hg.2 a6 a8 a9 a13
      have e0 := y_RK_fun hlk v2 hRK
      subst e0
      have hlv' : lv_has ls (y_mL c.1) lv' := ⟨hlv.1, hlv.2.1, fun q hq => hlv.2.2 q (y_lookup_mem (a5 q hq))⟩
      refine hS p e _ s m av.toArray below meth cd (va_A cw0 s.heap.size) cw0 ρ 0 0 _ c.1 Q hFix (Nat.le_refl _) (Nat.zero_le _) (Nat.zero_le _) _ (hEnd ρ a3 (by rw [a2]; exact htg)) ?_ ρ H locs cw tys ls [] κ.2.2.2 κ.1 lo [] n env h' (hcd κ hκ) (y_rle_refl ρ) ⟨hK1, hP1, hD1, hS1, a1, by rw [a2]; exact hW1, by rw [a14]; exact y_KL_of hKK1, hsm1, a6, a7, a8, a9, a10, a11, a12⟩ ⟨⟨lv', hlv', a4⟩, trivial⟩ v3
      intro ρ2 H2 locs2 cw2 tys2 ls2 cst2 pc2 lo2 st2 n2 env2 h2 hle2 hSt2 hFr2 hsp2
      obtain ⟨hK2, hP2, hD2, hS2, had2, hW2, hKK2, hsm2, he2, hr2, hf2, hx2, hsl2, hps2, hps02⟩ := hSt2
      obtain ⟨hlg2, rfl, κ', k1, k2, ms', vs', k3, k4, k5⟩ := y_stp_ok hsp2 hgl (fun i x q => hle2.1 _ _ (a3 i x q)) (fun p t q => hle2.2.2.2 p t (by rw [a2]; exact htg p t q)) had2 he2 hr2 hf2 hx2 hps02 hFr2
      subst k2
      obtain ⟨_, lv3, _, _, hRK3⟩ := id k3
      have b1 := y_RK_b hRK3
      have b0 := y_RK_b hRK
      have hlt2 := y_lex_ok hr2 he2 k5 k4 (y_VM_mono hle2.1 v1) (by rw [b1.1, b0.1, hL κ' k1, hL κ hκ]) b1.2
      exact ih κ' ms' H2 locs2 cw2 tys2 (y_tg ρ2) ls2 (by omega) k1 k3 hK2 hP2 hD2 hS2 hW2 (y_KL_nil hKs hlg2 hKK2) hsm2
  -- the entry
  have hJ : y_AI tb.1.length (lv_args 0 av) cw0 gs ((y_ger c.2.2.1 0).map .inr) := y_AI_ger 0 hGS (fun k x q => by rw [Nat.zero_add]; exact q)
  obtain ⟨ρ, lo, lv', n, env, h', a1, a2, a3, a4, a5, a6, a7, a8, a9, a10, a11, a12, a14, a13⟩ := y_run_ok (b := b) hE hgl hann hJ
  have hlv' : lv_has _ (y_mL c.1) lv' := ⟨hl.1, hl.2.1, fun q hq => hl.2.2 q (y_lookup_mem (a5 q hq))⟩
  have goal : W p l e (y_rm c.1) s m av.toArray below meth cd s.heap [] 0 0 Q _ := hS p e _ s m av.toArray below meth cd (va_A cw0 s.heap.size) cw0 ρ 0 0 _ c.1 Q hFix (Nat.le_refl _) (Nat.zero_le _) (Nat.zero_le _) _ (hEnd ρ a3 (by rw [a2]; exact fun _ _ q => q)) (fun ρ2 H2 locs2 cw2 tys2 ls2 cst2 pc2 lo2 st2 n2 env2 h2 hle2 hSt2 hFr2 hsp2 => by
      obtain ⟨hK2, hP2, hD2, hS2, had2, hW2, hKK2, hsm2, he2, hr2, hf2, hx2, hsl2, hps2, hps02⟩ := hSt2
      obtain ⟨hlg2, rfl, κ', k1, k2, ms', vs', k3, k4, k5⟩ := y_stp_ok hsp2 hgl (fun i x q => hle2.1 _ _ (a3 i x q)) (fun p t q => hle2.2.2.2 p t (by rw [a2]; exact q)) had2 he2 hr2 hf2 hx2 hps02 hFr2
      subst k2
      exact hCut (y_enc ms' + 1) κ' ms' H2 locs2 cw2 tys2 (y_tg ρ2) ls2 (by omega) k1 k3 hK2 hP2 hD2 hS2 hW2 (y_KL_nil hKs hlg2 hKK2) hsm2) ρ s.heap [] cw0 tys0 _ [] (y_cd c.1) 0 lo [] n env h' (fun x q => ⟨x, q, rfl⟩) (y_rle_refl ρ) ⟨hKK0, hP0, hD, va_S.rf, a1, by rw [a2]; exact hW0, by rw [a14]; exact y_KL_of hK0, y_same_refl _ _ _, a6, a7, a8, a9, a10, a11, a12⟩ ⟨⟨lv', hlv', a4⟩, trivial⟩ a13
  rw [hQ] at goal
  exact goal
end YM
