-- load: what the layout says, from what was read and copied
def FR (V : yVw) (g : Nat) : Prop := (V.2 cM fNSi).toInt ≤ g ∨ 0 ≤ (V.1 rNJ (3 * (V.1 rNS g).toInt + (V.1 rNE g).toInt).toNat).toInt
def FE (V : yVw) : Prop := (V.2 cM fSec).toInt = (V.2 cM fNSe).toInt ∧ (V.2 cM fSig).toInt = (V.2 cM fNSi).toInt
def FS (V : yVw) (g : Nat) : Prop := (V.2 cM fSec).toInt ≤ g ∨ ((V.1 rJO (3 * g) = V.1 rNJ (3 * g) ∧ V.1 rJO (3 * g + 1) = V.1 rNJ (3 * g + 1) ∧ V.1 rJO (3 * g + 2) = V.1 rNJ (3 * g + 2)) ∧ (V.1 rSA (2 * g) = V.1 rNA (2 * g) ∧ V.1 rSA (2 * g + 1) = V.1 rNA (2 * g + 1)) ∧ V.1 rISP g = V.1 rNP g)
def FK (V : yVw) (g : Nat) : Prop := (V.2 cM fSig).toInt ≤ g ∨ (V.1 rSS g = V.1 rNS g ∧ V.1 rSE g = V.1 rNE g)
theorem ld_L {V : yVw} (hB : PB V rISP) (hN : PN V) (hE : FE V) (hR : ∀ g : Nat, g < 16 → FR V g) (hS : ∀ g : Nat, g < 24 → FS V g) (hK : ∀ g : Nat, g < 16 → FK V g) : (PB V rISP ∧ PJ V rJO rISP fSec) ∧ PS2 V ∧ PS3 V := by
  obtain ⟨⟨hBn, hZ, hJ⟩, hN2, hY, hN3⟩ := hN
  obtain ⟨e1, e2⟩ := hE
  have cJ : ∀ i : Nat, (i : Int) < 3 * (V.2 cM fSec).toInt → V.1 rJO i = V.1 rNJ i := fun i hi => by
    rcases hS (i / 3) (by omega) with q | ⟨⟨q0, q1, q2⟩, _, _⟩
    · omega
    · have : i = 3 * (i / 3) ∨ i = 3 * (i / 3) + 1 ∨ i = 3 * (i / 3) + 2 := by omega
      rcases this with z | z | z
      · rw [z]; exact q0
      · rw [z]
        have : (3 * (i / 3) + 1) / 3 = i / 3 := by omega
        exact q1
      · rw [z]
        exact q2
  have cP : ∀ s : Nat, (s : Int) < (V.2 cM fSec).toInt → V.1 rISP s = V.1 rNP s := fun s hs => by
    rcases hS s (by omega) with q | ⟨_, _, q⟩
    · omega
    · exact q
  refine ⟨⟨hB, by omega, fun i hi => ?_⟩, fun k hk => ?_, fun s hs e he h0 hn => ?_⟩
  · rw [cJ i hi]
    rcases hJ i (by omega) with q | ⟨q1, q2, q3⟩
    · exact Or.inl q
    · refine Or.inr ⟨q1, by omega, ?_⟩
      rw [cP _ (by omega)]
      exact q3
  · have hk' : (k : Int) < (V.2 cM fNSi).toInt := by omega
    have h3 := hN3 k hk'
    rcases hK k (by omega) with q | ⟨q1, q2⟩
    · omega
    rw [q1, q2]
    refine ⟨⟨h3.1.1, by omega⟩, h3.2, ?_⟩
    rcases hR k (by omega) with q | q
    · omega
    · rw [cJ _ (by omega)]
      exact q
  · have hA : V.1 rSA (2 * s + e) = V.1 rNA (2 * s + e) := by
      rcases hS s (by omega) with q | ⟨_, ⟨q0, q1⟩, _⟩
      · omega
      · rcases (by omega : e = 0 ∨ e = 1) with z | z
        · subst z; exact q0
        · subst z; exact q1
    rw [hA] at hn
    rw [cJ _ (by omega)]
    rcases hN2 s (by omega) e he with q | ⟨q1, q2, q3, q4⟩
    · exact absurd q hn
    · rcases hR (V.1 rNA (2 * s + e)).toInt.toNat (by omega) with z | z
      · omega
      · rw [q3, q4] at z
        rw [show ((3 : Int) * s + e).toNat = 3 * s + e by omega] at z
        exact z
-- trains: none
theorem ld_T {V : yVw} (hL : PB V rISP ∧ PJ V rJO rISP fSec) (h0 : (V.2 cM fTrn).toInt = 0) (h1 : (V.2 cM fIY).toInt = 0) (hp : ∀ p : Nat, p < 8 → (V.1 rPT p).toInt = 0) : PT V := by
  refine ⟨hL, ⟨by omega, fun t ht => by omega⟩, fun p hp' h => ?_, fun t u ht => by omega, fun p hp' => Or.inl (hp p hp'), ?_⟩
  · have := hp p hp'
    omega
  · have := hp 0 (by omega)
    have := hp 1 (by omega)
    have := hp 2 (by omega)
    have := hp 3 (by omega)
    have := hp 4 (by omega)
    have := hp 5 (by omega)
    have := hp 6 (by omega)
    have := hp 7 (by omega)
    omega
/-- what ends, ends in one way -/
theorem y_Met_all {ι : Type} (i0 : ι) {l : Launch} {y : MethodName} {ws : List Jvm.Cond} {rm : Room} {Pc : Array Value → State → Prop} {Q : ι → Array Value → State → Outcome → State → Prop} {mc ms : Nat} {free : Addr → Prop} (h : ∀ i, Met l y ws rm Pc (Q i) mc ms free) : Met l y ws rm Pc (fun a st o t => ∀ i, Q i a st o t) mc ms free := by
  intro p e h1 h2 h3 s m args below h4 h5 h6 h7
  obtain ⟨n, o, a1, a2, a3, a4, a5⟩ := h i0 p e h1 h2 h3 s m args below h4 h5 h6 h7
  refine ⟨n, o, a1, a2, a3, fun i => ?_, a5⟩
  obtain ⟨n', o', b1, b2, b3, b4, b5⟩ := h i p e h1 h2 h3 s m args below h4 h5 h6 h7
  have en : n = n' := by
    rcases Nat.lt_trichotomy n n' with q | q | q
    · exact absurd (b1 n q) a3.not_within
    · exact q
    · exact absurd (a1 n' q) b3.not_within
  subst en
  have eo := a3.outcome_unique b3
  subst eo
  exact b4
-- cells of one heap are the same
section YD
variable {tb : yTb} {cls : List vw_C} {D : va_G} {tys tys' : List (ClassId × FieldType)} {tg tg' : List yC} {cw cw' : va_W} {H : Heap}
theorem y_rowOf (hW : y_WT tb cls tys tg cw) {r kd len : Nat} {E : yD} (hs : tb.1[r]? = some (.inr (kd, len, .inl E))) (hk : kd < 3) : ∃ (a : Nat) (cA : ClassId) (f : Nat → Int32), cw[r]? = some (a, .inl (cA, len, .inl f)) ∧ ∀ j, j < len → y_in E (z_b (f j)) := by
  obtain ⟨dy, hdy, _⟩ := hW.2.1
  have hl : r < tb.1.length := (List.getElem?_eq_some_iff.mp hs).1
  have ht0 : tg[r]? = some (.inr (kd, len, .inl E)) := by rw [hdy, List.getElem?_append_left hl]; exact hs
  have hc0 : r < cw.length := by rw [hW.1]; exact (List.getElem?_eq_some_iff.mp ht0).1
  obtain ⟨e, he⟩ : ∃ e, cw[r]? = some e := ⟨_, List.getElem?_eq_getElem hc0⟩
  have hET := hW.2.2 r e _ he ht0
  obtain ⟨a, x⟩ := e
  match x, he, hET with
  | .inl (cA, m, d), he, hET =>
    have g3 : len = m := hET.1
    subst g3
    have r4 : ∃ f, d = .inl f ∧ ∀ j, j < len → y_tv tb (cw.map Prod.fst) tg (.inl E) (.int (f j)) := by
      match kd, hk, hET.2.2 with
      | 0, _, r3 => exact r3
      | 1, _, r3 => exact r3
      | 2, _, r3 => exact r3
    obtain ⟨f, rfl, r5⟩ := r4
    refine ⟨a, cA, f, he, fun j hj => ?_⟩
    obtain ⟨x, hx1, hx⟩ := (show ∃ x, (Value.int (f j)) = .int x ∧ y_in E (z_b x) from r5 j hj)
    cases hx1
    exact hx
  | .inr _, _, hET => exact hET.elim
theorem y_fldOf (hW : y_WT tb cls tys tg cw) {c ci f : Nat} {ts : List yT} {E : yD} (hs : tb.1[c]? = some (.inl (ci, ts))) (hf : ts[f]? = some (.inl E)) : ∃ (a : Nat) (vs : List Value) (x : Int32), cw[c]? = some (a, .inr (ci, vs)) ∧ vs[f]? = some (.int x) ∧ y_in E (z_b x) := by
  obtain ⟨dy, hdy, _⟩ := hW.2.1
  have hl : c < tb.1.length := (List.getElem?_eq_some_iff.mp hs).1
  have ht0 : tg[c]? = some (.inl (ci, ts)) := by rw [hdy, List.getElem?_append_left hl]; exact hs
  have hc0 : c < cw.length := by rw [hW.1]; exact (List.getElem?_eq_some_iff.mp ht0).1
  obtain ⟨e, he⟩ : ∃ e, cw[c]? = some e := ⟨_, List.getElem?_eq_getElem hc0⟩
  have hET := hW.2.2 c e _ he ht0
  obtain ⟨a, x⟩ := e
  match x, he, hET with
  | .inr (cj, vs), he, hET =>
    have g3 : ci = cj := hET.1
    subst g3
    obtain ⟨w, r3, r4⟩ := y_TL_get hET.2 hf
    obtain ⟨x, rfl, hx⟩ := (show ∃ x, w = .int x ∧ y_in E (z_b x) from r4)
    exact ⟨a, vs, x, he, r3, hx⟩
  | .inl _, _, hET => exact hET.elim
theorem y_det_row (hP : va_P D cls cw H) (hP' : va_P D cls cw' H) {r a len len' : Nat} {cA cA' : ClassId} {f f' : Nat → Int32} (h : cw[r]? = some (a, .inl (cA, len, .inl f))) (h' : cw'[r]? = some (a, .inl (cA', len', .inl f'))) {j : Nat} (hj : j < len) (hj' : j < len') : f j = f' j := by
  have e1 : H[a]? = some (arrV cA len (fun j => .int (f j))) := hP r _ h
  have e2 : H[a]? = some (arrV cA' len' (fun j => .int (f' j))) := hP' r _ h'
  rw [e1] at e2
  have e3 := Option.some.inj e2
  have r1 : (arrV cA len (fun j => Value.int (f j))).slots[j]? = some (.int (f j)) := arrV_read _ _ hj
  have r2 : (arrV cA' len' (fun j => Value.int (f' j))).slots[j]? = some (.int (f' j)) := arrV_read _ _ hj'
  rw [e3, r2] at r1
  exact (Value.int.inj (Option.some.inj r1)).symm
theorem y_det_fld (hP : va_P D cls cw H) (hP' : va_P D cls cw' H) {c a ci f : Nat} {vs vs' : List Value} {x x' : Int32} {q : vw_C} (hq : cls[ci]? = some q) (hf : f < q.2.2) (h : cw[c]? = some (a, .inr (ci, vs))) (hv : vs[f]? = some (.int x)) (h' : cw'[c]? = some (a, .inr (ci, vs'))) (hv' : vs'[f]? = some (.int x')) : x = x' := by
  obtain ⟨r, g1, cell, g2, _, _, g3⟩ := hP c _ h
  obtain ⟨r', k1, cell', k2, _, _, k3⟩ := hP' c _ h'
  rw [hq] at g1 k1
  cases g1
  cases k1
  rw [g2] at k2
  cases k2
  have e1 := g3 f hf
  have e2 := k3 f hf
  rw [e1] at e2
  have e3 : vp_V vs f = vp_V vs' f := Option.some.inj e2
  have u1 : vp_V vs f = .int x := by unfold vp_V; rw [List.getD_eq_getElem?_getD, hv]; rfl
  have u2 : vp_V vs' f = .int x' := by unfold vp_V; rw [List.getD_eq_getElem?_getD, hv']; rfl
  rw [u1, u2] at e3
  exact Value.int.inj e3
end YD
-- a call without arguments, by hand
section YI
variable {wt : zTB} {nw : List Jvm.Cond} {cls : List vw_C} {zty : List (Nat → FieldType)} {zdv : List (List zAV)} {tb : yTb} {l : Launch} {D : va_G} {K : va_W → Prop} {b : Nat → Nat}
variable {p : Program} {e : Env} {R : Room} {s : State} {m : MethodId} {args : Array Value} {below : List Frame} {meth : Method} {c : Code} {A : Nat → Prop} {cw0 : va_W} {ce sl : Nat} {mr : yMR} {Q : State → Prop}
variable {ρ : yRo} {H : Heap} {locs : List Loc} {cw : va_W} {tys : List (ClassId × FieldType)} {ls : Array Slot} {n : Nat} {env : yEnv} {h : yHp}
theorem y_callC (hA : y_All wt nw cls zty zdv tb) (hF : y_Fix wt nw b cls tb p R s m args meth c A mr) (hce : ce ≤ R.cells) (hsl : sl ≤ R.slots) (hSt : y_St cls D K tb b s A cw0 ρ H locs cw tys n env h) {lv : List (Nat × Value)} (hlv : lv_has ls (y_mL mr) lv) {q j x1 x3 fl : Nat} (hent : (q, Jvm.ClassFile.Instr.invokevirtual j, x1, 1000, x3, fl) ∈ y_cd mr) {cn : yCN} (hcn : tb.2.2.2.2.1[x1]? = some cn) {o a : Nat} (hoa : (y_ad ρ)[o]? = some a) (ho : o < tb.1.length) (hcl : y_cls tb 0 o (y_ci cn.1) = true) (hRm : y_Rm R [] cn.1) {X : va_W → List (ClassId × FieldType) → Option Value → Prop}
    (hMet : Met l (y_y cn.1) (y_ws wt cn.1) (y_rm cn.1) (y_Pc nw b cls D cw tys H.size [.ref a]) (y_Q cls D X cw H.size) 0 0 (va_A cw H.size))
    (kk : ∀ (H1 : Heap) (locs1 : List Loc) (cw' : va_W) (tys' : List (ClassId × FieldType)) (rv : Option Value), va_K D cls tys' s → va_P D cls cw' H1 → va_D A cw' → va_S A s.heap H1 locs1 → X cw' tys' rv → W p l e R s m args below meth c H1 locs1 ce sl Q (F0 m (q + 3) ls (rv.toList ++ []))) : W p l e R s m args below meth c H locs ce sl Q (F0 m q ls [.ref a]) := by
  obtain ⟨hx, hb, hml, hown, hts, hR, hN, hA0, hok⟩ := id hF
  obtain ⟨hK, hP, hD, hS0, had, hW, hKK, hsame, he, hrl, hfx, hax, hnl, hps, hps0⟩ := id hSt
  obtain ⟨hdec, hokI⟩ := z_and (hok _ hent)
  obtain ⟨len, hdg, hlen⟩ := y_dec_ok hdec
  have hdg := y_dl hdg hlen rfl
  have hokI : y_cal tb x1 1000 (fun cm => and (and (Nat.blt (y_ci cm) (cond (Nat.ble 300 (1000 % 1000)) 100 99)) (decide ((y_y cm).name ≠ "<init>"))) (and (decide ((parseMethodDescriptor (y_y cm).desc).map (fun d => d.parameters.length) = some (1000 % 100))) (z_w wt x3 (.methodLink (y_y mr).cls j (y_y cm))))) = true := hokI
  rw [show Nat.ble 300 (1000 % 1000) = false from rfl] at hokI
  have hokI : y_cal tb x1 1000 (fun cm => and (and (Nat.blt (y_ci cm) 99) (decide ((y_y cm).name ≠ "<init>"))) (and (decide ((parseMethodDescriptor (y_y cm).desc).map (fun d => d.parameters.length) = some (1000 % 100))) (z_w wt x3 (.methodLink (y_y mr).cls j (y_y cm))))) = true := hokI
  unfold y_cal at hokI
  rw [show Nat.ble 1000 1000 = true from rfl, cond_true] at hokI
  obtain ⟨cn', hcn', hok1⟩ := z_opl_ok hokI
  rw [hcn] at hcn'
  cases hcn'
  obtain ⟨o0, o3⟩ := z_and hok1
  obtain ⟨o1, o2⟩ := z_and o3
  obtain ⟨m1, m2, m3, m4, m5, m6⟩ := hA.2.2.2 x1 cn hcn
  have m99 := z_lt_of (z_and o0).1
  obtain ⟨⟨m8, m9⟩, _, m10⟩ := m5 (by omega)
  obtain ⟨cq, m10, m11⟩ := m10 m99
  obtain ⟨dy, hdy, hdy2⟩ := hW.2.1
  obtain ⟨ts, u1⟩ := y_cls_ok hcl (show y_at ρ 0 o = some o from rfl) (fun z => absurd z (by omega)) hdy
  obtain ⟨vs, u2, _⟩ := y_cobj hW had hoa u1
  have hpre := y_PreS hF hSt [.ref a]
  exact y_call_ok hF hSt (va_runV (As := []) (rest := []) (C := (y_y cn.1).cls) ⟨hx, hb, hml, hown, hts⟩ hMet (cwV 0 hts (y_goodV m1 (z_w_ok o2) m8 m9 m2) rfl hRm.2.2.1 hRm.2.2.2 ⟨rfl, m4.1, m4.2, of_decide_eq_true o1⟩ hRm.2.1) ⟨hpre.1, by rw [← m11]; exact va_recv hK hP m10 u2, hpre.2⟩ rfl rfl hlv.1 rfl (lv_room hRm.1) hdg ⟨hce, hsl⟩) kk
end YI
