-- views that agree
def y_agr (sR : List Nat) (sF : List (Nat × Nat)) (V V' : yVw) : Prop := (∀ r ∈ sR, V.1 r = V'.1 r) ∧ ∀ q ∈ sF, V.2 q.1 q.2 = V'.2 q.1 q.2
def UV (cw : va_W) : yVw := (y_row cw, y_fld cw)
theorem y_agr_sym {sR : List Nat} {sF : List (Nat × Nat)} {V V' : yVw} (h : y_agr sR sF V V') : y_agr sR sF V' V := ⟨fun r hr => (h.1 r hr).symm, fun q hq => (h.2 q hq).symm⟩
theorem y_agr_U (sR : List Nat) (sF : List (Nat × Nat)) (cw : va_W) : y_agr sR sF (y_vws sR sF cw) (UV cw) := ⟨fun r hr => if_pos hr, fun q hq => if_pos hq⟩
theorem y_agr_same {n0 : Nat} {wr : yWr} {sR : List Nat} {sF : List (Nat × Nat)} {cw cw' : va_W} (ho : y_out n0 wr sR sF) (hs : y_same n0 wr cw cw') (hp : y_pres sR sF cw) : y_agr sR sF (UV cw) (UV cw') := by
  obtain ⟨_, h2⟩ := y_vw_same ho hs hp
  have a := y_agr_U sR sF cw
  have b := y_agr_U sR sF cw'
  rw [h2] at b
  exact ⟨fun r hr => (a.1 r hr).symm.trans (b.1 r hr), fun q hq => (a.2 q hq).symm.trans (b.2 q hq)⟩
theorem PN_ext {V V' : yVw} (h : y_agr sR_N sF_N V V') (hP : PN V) : PN V' := by
  obtain ⟨hr, hf⟩ := h
  have a1 : V.1 rNP = V'.1 rNP := hr _ (by decide)
  have a2 : V.1 rNJ = V'.1 rNJ := hr _ (by decide)
  have a3 : V.1 rNA = V'.1 rNA := hr _ (by decide)
  have a4 : V.1 rNS = V'.1 rNS := hr _ (by decide)
  have a5 : V.1 rNE = V'.1 rNE := hr _ (by decide)
  have b1 : V.2 cM fNSe = V'.2 cM fNSe := hf (114, 10) (by decide)
  have b2 : V.2 cM fNSi = V'.2 cM fNSi := hf (114, 17) (by decide)
  unfold PN PN2 PN3 PB PJ at hP ⊢
  simp only [a1, a2, a3, a4, a5, b1, b2] at hP
  exact hP
theorem PW_ext {V V' : yVw} (h : y_agr [142, 143] [(114, 45)] V V') (hP : PW V) : PW V' := by
  obtain ⟨hr, hf⟩ := h
  have a1 : V.1 rWI = V'.1 rWI := hr _ (by decide)
  have a2 : V.1 rWO = V'.1 rWO := hr _ (by decide)
  have b1 : V.2 cM fWM = V'.2 cM fWM := hf (114, 45) (by decide)
  unfold PW at hP ⊢
  simp only [a1, a2, b1] at hP
  exact hP
theorem PL_ext {V V' : yVw} (h : y_agr sR_L sF_L V V') (hP : PL V) : PL V' := by
  obtain ⟨hr, hf⟩ := h
  have a1 : V.1 rISP = V'.1 rISP := hr _ (by decide)
  have a2 : V.1 rJO = V'.1 rJO := hr _ (by decide)
  have a3 : V.1 rSA = V'.1 rSA := hr _ (by decide)
  have a4 : V.1 rSS = V'.1 rSS := hr _ (by decide)
  have a5 : V.1 rSE = V'.1 rSE := hr _ (by decide)
  have a6 : V.1 rWI = V'.1 rWI := hr _ (by decide)
  have a7 : V.1 rWO = V'.1 rWO := hr _ (by decide)
  have b1 : V.2 cM fSec = V'.2 cM fSec := hf (114, 20) (by decide)
  have b2 : V.2 cM fSig = V'.2 cM fSig := hf (114, 27) (by decide)
  have b3 : V.2 cM fWM = V'.2 cM fWM := hf (114, 45) (by decide)
  unfold PL PS2 PS3 PW PB PJ at hP ⊢
  simp only [a1, a2, a3, a4, a5, a6, a7, b1, b2, b3] at hP
  exact hP
theorem PT_ext {V V' : yVw} (h : y_agr sR_T sF_T V V') (hP : PT V) : PT V' := by
  obtain ⟨hr, hf⟩ := h
  have a1 : V.1 rISP = V'.1 rISP := hr _ (by decide)
  have a2 : V.1 rJO = V'.1 rJO := hr _ (by decide)
  have a3 : V.1 rTP = V'.1 rTP := hr _ (by decide)
  have a4 : V.1 rTB = V'.1 rTB := hr _ (by decide)
  have a5 : V.1 rPM = V'.1 rPM := hr _ (by decide)
  have a6 : V.1 rPS = V'.1 rPS := hr _ (by decide)
  have a7 : V.1 rPO = V'.1 rPO := hr _ (by decide)
  have a8 : V.1 rPT = V'.1 rPT := hr _ (by decide)
  have b1 : V.2 cM fSec = V'.2 cM fSec := hf (114, 20) (by decide)
  have b2 : V.2 cM fIY = V'.2 cM fIY := hf (114, 88) (by decide)
  have b3 : V.2 cM fTrn = V'.2 cM fTrn := hf (114, 87) (by decide)
  unfold PT PT1 PT2 PT3 PT4 PB PJ at hP ⊢
  simp only [a1, a2, a3, a4, a5, a6, a7, a8, b1, b2, b3] at hP
  exact hP
-- a state with nothing said of it
theorem y_St0 {cls : List vw_C} {D : va_G} {K : va_W → Prop} {tb : yTb} {b : Nat → Nat} {s : State} {A : Nat → Prop} {cw0 : va_W} {H : Heap} {locs : List Loc} {cw : va_W} {tys : List (ClassId × FieldType)} {tg : List yC} (h1 : va_K D cls tys s) (h2 : va_P D cls cw H) (h3 : va_D A cw) (h4 : va_S A s.heap H locs) (h5 : y_WT tb cls tys tg cw) (h6 : K cw) (h7 : y_same tb.1.length tb.2.2.2.2.2 cw0 cw) : y_St cls D K tb b s A cw0 ([], fun _ => none, cw.map Prod.fst, tg) H locs cw tys 0 [] ([], [], [], []) :=
  ⟨h1, h2, h3, h4, rfl, h5, y_KL_of h6, h7, (by intro q hq; cases hq), (by intro q hq; cases hq), (by intro q hq; cases hq), (by intro q hq; cases hq), rfl, fun _ _ => rfl, fun i p q => by cases q⟩
