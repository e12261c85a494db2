-- several contracts of one method, of one call
def lAG : List (Nat × Nat) := [(116, 24), (120, 72), (121, 48), (122, 16), (123, 16), (124, 24), (128, 72), (129, 48), (130, 16), (131, 16)]
def AG (V V' : yVw) : Prop := (∀ q ∈ lAG, ∀ j : Nat, j < q.2 → V.1 q.1 j = V'.1 q.1 j) ∧ ∀ q ∈ sFA, V.2 q.1 q.2 = V'.2 q.1 q.2
theorem AG_U (cw : va_W) : AG (y_vws sRA sFA cw) (UV cw) := ⟨fun q hq j _ => by
    have : q.1 ∈ sRA := by
      have h : ∀ q ∈ lAG, q.1 ∈ sRA := by decide
      exact h q hq
    rw [(y_agr_U sRA sFA cw).1 _ this], fun q hq => (y_agr_U sRA sFA cw).2 q hq⟩
theorem AG_tr {V V' V'' : yVw} (h : AG V V') (h' : AG V' V'') : AG V V'' := ⟨fun q hq j hj => (h.1 q hq j hj).trans (h'.1 q hq j hj), fun q hq => (h.2 q hq).trans (h'.2 q hq)⟩
theorem FE_ag {V V' : yVw} (h : AG V V') (hF : FE V) : FE V' := by
  have b1 : V.2 cM fSec = V'.2 cM fSec := h.2 (114, 20) (by decide)
  have b2 : V.2 cM fSig = V'.2 cM fSig := h.2 (114, 27) (by decide)
  have b3 : V.2 cM fNSe = V'.2 cM fNSe := h.2 (114, 10) (by decide)
  have b4 : V.2 cM fNSi = V'.2 cM fNSi := h.2 (114, 17) (by decide)
  unfold FE at hF ⊢
  rw [b1, b2, b3, b4] at hF
  exact hF
theorem FS_ag {V V' : yVw} {g : Nat} (hg : g < 24) (h : AG V V') (hF : FS V g) : FS V' g := by
  have b1 : V.2 cM fSec = V'.2 cM fSec := h.2 (114, 20) (by decide)
  have a1 : ∀ j, j < 72 → V.1 rJO j = V'.1 rJO j := h.1 (128, 72) (by decide)
  have a2 : ∀ j, j < 72 → V.1 rNJ j = V'.1 rNJ j := h.1 (120, 72) (by decide)
  have a3 : ∀ j, j < 48 → V.1 rSA j = V'.1 rSA j := h.1 (129, 48) (by decide)
  have a4 : ∀ j, j < 48 → V.1 rNA j = V'.1 rNA j := h.1 (121, 48) (by decide)
  have a5 : ∀ j, j < 24 → V.1 rISP j = V'.1 rISP j := h.1 (124, 24) (by decide)
  have a6 : ∀ j, j < 24 → V.1 rNP j = V'.1 rNP j := h.1 (116, 24) (by decide)
  unfold FS at hF ⊢
  rw [b1, a1 _ (by omega), a1 _ (by omega), a1 _ (by omega), a2 _ (by omega), a2 _ (by omega), a2 _ (by omega), a3 _ (by omega), a3 _ (by omega), a4 _ (by omega), a4 _ (by omega), a5 _ (by omega), a6 _ (by omega)] at hF
  exact hF
theorem FK_ag {V V' : yVw} {g : Nat} (hg : g < 16) (h : AG V V') (hF : FK V g) : FK V' g := by
  have b1 : V.2 cM fSig = V'.2 cM fSig := h.2 (114, 27) (by decide)
  have a1 : ∀ j, j < 16 → V.1 rSS j = V'.1 rSS j := h.1 (130, 16) (by decide)
  have a2 : ∀ j, j < 16 → V.1 rNS j = V'.1 rNS j := h.1 (122, 16) (by decide)
  have a3 : ∀ j, j < 16 → V.1 rSE j = V'.1 rSE j := h.1 (131, 16) (by decide)
  have a4 : ∀ j, j < 16 → V.1 rNE j = V'.1 rNE j := h.1 (123, 16) (by decide)
  unfold FK at hF ⊢
  rw [b1, a1 _ hg, a2 _ hg, a3 _ hg, a4 _ hg] at hF
  exact hF
theorem FR_ag {V V' : yVw} {g : Nat} (hg : g < 16) (h : AG V V') (h1 : 0 ≤ (V.1 rNS g).toInt ∧ (V.1 rNS g).toInt ≤ 23) (h2 : 0 ≤ (V.1 rNE g).toInt ∧ (V.1 rNE g).toInt ≤ 1) (hF : FR V g) : FR V' g := by
  have b1 : V.2 cM fNSi = V'.2 cM fNSi := h.2 (114, 17) (by decide)
  have a1 : ∀ j, j < 72 → V.1 rNJ j = V'.1 rNJ j := h.1 (120, 72) (by decide)
  have a2 : ∀ j, j < 16 → V.1 rNS j = V'.1 rNS j := h.1 (122, 16) (by decide)
  have a4 : ∀ j, j < 16 → V.1 rNE j = V'.1 rNE j := h.1 (123, 16) (by decide)
  unfold FR at hF ⊢
  rw [b1, a1 _ (by omega), a2 _ hg, a4 _ hg] at hF
  exact hF
section YG
variable {wt : zTB} {nw : List Jvm.Cond} {cls : List vw_C} {tb : yTb} {l : Launch} {D : va_G}
theorem y_adr {n0 : Nat} {w : yWr} {cw cw1 : va_W} (h : y_same n0 w cw cw1) {r : Nat} (hr : r < cw.length) {e1 : Nat × va_E} (h1 : cw1[r]? = some e1) : ∃ e, cw[r]? = some e ∧ e1.1 = e.1 := by
  refine ⟨cw[r], List.getElem?_eq_getElem hr, ?_⟩
  have := h.1 r cw[r].1 (by rw [List.getElem?_map, List.getElem?_eq_getElem hr]; rfl)
  rw [List.getElem?_map, h1] at this
  exact Option.some.inj this
theorem y_WT_lt {tys : List (ClassId × FieldType)} {tg : List yC} {cw : va_W} (hW : y_WT tb cls tys tg cw) {r : Nat} (hr : r < tb.1.length) : r < cw.length := by
  obtain ⟨dy, hdy, _⟩ := hW.2.1
  rw [hW.1, hdy, List.length_append]
  omega
theorem AG_of {n0 : Nat} {w1 w2 : yWr} {cw cw1 cw2 : va_W} {tys tys1 tys2 : List (ClassId × FieldType)} {tg tg1 tg2 : List yC} {H : Heap} (hsr : ∀ q ∈ lAG, ∃ kd E, kd < 3 ∧ tb.1[q.1]? = some (.inr (kd, q.2, .inl E))) (hsf : ∀ q ∈ sFA, ∃ ci ts E c, tb.1[q.1]? = some (.inl (ci, ts)) ∧ ts[q.2]? = some (.inl E) ∧ cls[ci]? = some c ∧ q.2 < c.2.2) (hW : y_WT tb cls tys tg cw) (s1 : y_same n0 w1 cw cw1) (s2 : y_same n0 w2 cw cw2) (W1 : y_WT tb cls tys1 tg1 cw1) (W2 : y_WT tb cls tys2 tg2 cw2) (P1 : va_P D cls cw1 H) (P2 : va_P D cls cw2 H) : AG (UV cw1) (UV cw2) := by
  constructor
  · intro q hq j hj
    obtain ⟨kd, E, hk, hs⟩ := hsr q hq
    have hlt := y_WT_lt hW (List.getElem?_eq_some_iff.mp hs).1
    obtain ⟨a1, c1, f1, g1, _⟩ := y_rowOf W1 hs hk
    obtain ⟨a2, c2, f2, g2, _⟩ := y_rowOf W2 hs hk
    obtain ⟨e, h1, h2⟩ := y_adr s1 hlt g1
    obtain ⟨e', h1', h2'⟩ := y_adr s2 hlt g2
    rw [h1] at h1'
    cases h1'
    have ha : a1 = a2 := h2.trans h2'.symm
    subst ha
    show y_row cw1 q.1 j = y_row cw2 q.1 j
    rw [y_row_eq g1, y_row_eq g2]
    exact y_det_row P1 P2 g1 g2 hj hj
  · intro q hq
    obtain ⟨ci, ts, E, c, hs, hf, hc, hl⟩ := hsf q hq
    have hlt := y_WT_lt hW (List.getElem?_eq_some_iff.mp hs).1
    obtain ⟨a1, v1, x1, g1, k1, _⟩ := y_fldOf W1 hs hf
    obtain ⟨a2, v2, x2, g2, k2, _⟩ := y_fldOf W2 hs hf
    obtain ⟨e, h1, h2⟩ := y_adr s1 hlt g1
    obtain ⟨e', h1', h2'⟩ := y_adr s2 hlt g2
    rw [h1] at h1'
    cases h1'
    have ha : a1 = a2 := h2.trans h2'.symm
    subst ha
    show y_fld cw1 q.1 q.2 = y_fld cw2 q.1 q.2
    rw [y_fld_eq g1 k1, y_fld_eq g2 k2]
    exact y_det_fld P1 P2 hc hl g1 k1 g2 k2
def XF (cls : List vw_C) (K : yCN → va_W → Prop) (tb : yTb) (fs : List yCN) (c0 : yCN) (cw : va_W) (tg : List yC) : va_W → List (ClassId × FieldType) → Option Value → Prop := fun cw' tys' rv => y_XC cls (K c0) tb c0 [] cw tg cw' tys' rv ∧ ∀ c ∈ fs, ∃ cw'' tys'', y_XC cls (K c) tb c [] cw tg cw'' tys'' rv ∧ AG (UV cw'') (UV cw')
theorem fam_Met {b : Nat → Nat} (hsr : ∀ q ∈ lAG, ∃ kd E, kd < 3 ∧ tb.1[q.1]? = some (.inr (kd, q.2, .inl E))) (hsf : ∀ q ∈ sFA, ∃ ci ts E c, tb.1[q.1]? = some (.inl (ci, ts)) ∧ ts[q.2]? = some (.inl E) ∧ cls[ci]? = some c ∧ q.2 < c.2.2) {K : yCN → va_W → Prop} {fs : List yCN} {c0 : yCN} (h0 : c0 ∈ fs) (he : ∀ c ∈ fs, (y_y c.1, y_ws wt c.1, y_rm c.1, y_mL c.1, c.2.1, c.2.2.1) = (y_y c0.1, y_ws wt c0.1, y_rm c0.1, y_mL c0.1, c0.2.1, [])) (hcon : ∀ c ∈ fs, y_Con wt nw cls l D (K c) tb c) {cw : va_W} {tys : List (ClassId × FieldType)} {tg : List yC} {sz : Nat} {av : List Value} (hlen : (lg_sl av).length ≤ y_mL c0.1) (hann : y_Ann tb.1.length (y_tv tb (cw.map Prod.fst) tg) [] (lv_args 0 av) cw c0.2.1) (hW : y_WT tb cls tys tg cw) (hK : ∀ c ∈ fs, K c cw) : Met l (y_y c0.1) (y_ws wt c0.1) (y_rm c0.1) (y_Pc nw b cls D cw tys sz av) (y_Q cls D (XF cls K tb fs c0 cw tg) cw sz) 0 0 (va_A cw sz) := by
  have hall : Met l (y_y c0.1) (y_ws wt c0.1) (y_rm c0.1) (y_Pc nw b cls D cw tys sz av) (fun a st o t => ∀ c : { c // c ∈ fs }, y_Q cls D (y_XC cls (K c.1) tb c.1 [] cw tg) cw sz a st o t) 0 0 (va_A cw sz) := by
    refine y_Met_all ⟨c0, h0⟩ ?_
    rintro ⟨c, hc⟩
    have e := he c hc
    injection e with e1 e
    injection e with e2 e
    injection e with e3 e
    injection e with e4 e
    injection e with e5 e6
    have := hcon c hc b cw tys tg sz av [] (by rw [e4]; exact hlen) (by rw [e5]; exact hann) (by rw [e6]; trivial) hW (hK c hc)
    rw [e1, e2, e3] at this
    exact this
  refine y_Met_post hall ?_
  intro a st o t hQ
  obtain ⟨⟨cw', tys', rv, q1, q2, q3, q4, q5⟩, q6⟩ := hQ ⟨c0, h0⟩
  refine ⟨⟨cw', tys', rv, q1, q2, q3, q4, q5, fun c hc => ?_⟩, q6⟩
  obtain ⟨⟨cw2, tys2, rv2, r1, r2, r3, r4, r5⟩, _⟩ := hQ ⟨c, hc⟩
  rw [q1] at r1
  cases r1
  refine ⟨cw2, tys2, r5, ?_⟩
  obtain ⟨tg1, o1, _, _, _, _, _, k1, k2, _⟩ := q5
  obtain ⟨tg2, o2, _, _, _, _, _, k3, k4, _⟩ := r5
  exact AG_of hsr hsf hW k3 k1 k4 k2 r2 q2
end YG
