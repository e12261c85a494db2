-- the launch, the classes
variable {l : Launch} {D : va_G}
-- load, all of it
def ywL2 : yWr := (ywS1.1 ++ (ycRL.2.2.2.2.1 ++ (ycTL.2.2.2.2.1 ++ (ycFR.2.2.2.2.1 ++ ycBH.2.2.2.2.1))), ycRL.2.2.2.2.2.1 ++ (ycTL.2.2.2.2.2.1 ++ (ycFR.2.2.2.2.2.1 ++ ycBH.2.2.2.2.2.1)), false)
def ycLd : yCN := (yrLd, ([(0, .inr (.inl [114]))], [], []), [], [(some (.inl y_top), [], [])], ywL2)
theorem hasR_of {tys : List (ClassId × FieldType)} {tg : List yC} {cw : va_W} (hW : y_WT (ytb yw00) zcls tys tg cw) {r kd len : Nat} {E : yD} (hs : (ytb yw00).1[r]? = some (.inr (kd, len, .inl E))) (hk : kd < 3) : y_hasR cw r := by
  obtain ⟨a, cA, f, h, _⟩ := y_rowOf hW hs hk
  exact ⟨a, cA, len, f, h⟩
theorem hasF_of {tys : List (ClassId × FieldType)} {tg : List yC} {cw : va_W} (hW : y_WT (ytb yw00) zcls tys tg cw) {c ci f : Nat} {ts : List yT} {E : yD} (hs : (ytb yw00).1[c]? = some (.inl (ci, ts))) (hf : ts[f]? = some (.inl E)) : y_hasF cw c f := by
  obtain ⟨a, vs, x, h1, h2, _⟩ := y_fldOf hW hs hf
  exact ⟨a, ci, vs, x, h1, h2⟩
theorem pres_L {tys : List (ClassId × FieldType)} {tg : List yC} {cw : va_W} (hW : y_WT (ytb yw00) zcls tys tg cw) : y_pres sR_L sF_L cw := ⟨y_forall (hasR_of hW rfl (by decide)) <| y_forall (hasR_of hW rfl (by decide)) <| y_forall (hasR_of hW rfl (by decide)) <| y_forall (hasR_of hW rfl (by decide)) <| y_forall (hasR_of hW rfl (by decide)) <| y_forall (hasR_of hW rfl (by decide)) <| y_forall (hasR_of hW rfl (by decide)) <| y_fornil, y_forall (hasF_of hW rfl rfl) <| y_forall (hasF_of hW rfl rfl) <| y_forall (hasF_of hW rfl rfl) <| y_fornil⟩
theorem pres_T {tys : List (ClassId × FieldType)} {tg : List yC} {cw : va_W} (hW : y_WT (ytb yw00) zcls tys tg cw) : y_pres sR_T sF_T cw := ⟨y_forall (hasR_of hW rfl (by decide)) <| y_forall (hasR_of hW rfl (by decide)) <| y_forall (hasR_of hW rfl (by decide)) <| y_forall (hasR_of hW rfl (by decide)) <| y_forall (hasR_of hW rfl (by decide)) <| y_forall (hasR_of hW rfl (by decide)) <| y_forall (hasR_of hW rfl (by decide)) <| y_forall (hasR_of hW rfl (by decide)) <| y_fornil, y_forall (hasF_of hW rfl rfl) <| y_forall (hasF_of hW rfl rfl) <| y_forall (hasF_of hW rfl rfl) <| y_fornil⟩
theorem KW_of {cw : va_W} (h : yKL cw) : yKW cw := by
  have hr : ∀ r ∈ ([142, 143] : List Nat), r ∈ sR_L := by decide
  have hf : ∀ q ∈ ([(114, 45)] : List (Nat × Nat)), q ∈ sF_L := by decide
  refine ⟨⟨fun r h1 => h.1.1 r (hr r h1), fun q h1 => h.1.2 q (hf q h1)⟩, PW_ext ⟨fun r h1 => ?_, fun q h1 => ?_⟩ h.2.2.2.2⟩
  · exact ((y_agr_U sR_L sF_L cw).1 r (hr r h1)).trans ((y_agr_U [142, 143] [(114, 45)] cw).1 r h1).symm
  · exact ((y_agr_U sR_L sF_L cw).2 q (hf q h1)).trans ((y_agr_U [142, 143] [(114, 45)] cw).2 q h1).symm
theorem KL_of {tys : List (ClassId × FieldType)} {tg : List yC} {cw : va_W} (hW : y_WT (ytb yw00) zcls tys tg cw) (hN : yKN cw) (hKW : yKW cw) (hE : FE (UV cw)) (hR : ∀ g : Nat, g < 16 → FR (UV cw) g) (hS : ∀ g : Nat, g < 24 → FS (UV cw) g) (hK : ∀ g : Nat, g < 16 → FK (UV cw) g) : yKL cw := by
  obtain ⟨h1, h2, h3⟩ := ld_L (rowP hW) (PN_ext (y_agr_U sR_N sF_N cw) hN.2) hE hR hS hK
  exact ⟨pres_L hW, PL_ext (y_agr_sym (y_agr_U sR_L sF_L cw)) ⟨h1, h2, h3, PW_ext (y_agr_U _ _ cw) hKW.2⟩⟩
def itBH : List yIt := [.inl ((2, 0, 0, []), 188, D0), .inl ((2, 1, 0, []), 188, D0), .inl ((2, 2, 0, []), 188, D0), .inl ((2, 3, 0, []), 188, D0), .inl ((2, 4, 0, []), 188, D0), .inl ((2, 5, 0, []), 188, D0), .inl ((2, 6, 0, []), 188, D0), .inl ((2, 7, 0, []), 188, D0)]
theorem itBH_V {V : yVw} {lv : List (Nat × Value)} (h : y_AV V lv [] itBH) : ∀ p : Nat, p < 8 → (V.1 rPT p).toInt = 0 := by
  simp only [itBH, D0, y_AV, y_pV, exists_eq_left', exists_eq_left, exists_and_left, and_true] at h
  rw [i_cn (show 0 < 2147483648 by decide), i_cn (show 1 < 2147483648 by decide), i_cn (show 2 < 2147483648 by decide), i_cn (show 3 < 2147483648 by decide), i_cn (show 4 < 2147483648 by decide), i_cn (show 5 < 2147483648 by decide), i_cn (show 6 < 2147483648 by decide), i_cn (show 7 < 2147483648 by decide)] at h
  obtain ⟨-, h0, -, h1, -, h2, -, h3, -, h4, -, h5, -, h6, -, h7⟩ := h
  intro p hp
  match p, hp with
  | 0, _ => exact i_1s h0
  | 1, _ => exact i_1s h1
  | 2, _ => exact i_1s h2
  | 3, _ => exact i_1s h3
  | 4, _ => exact i_1s h4
  | 5, _ => exact i_1s h5
  | 6, _ => exact i_1s h6
  | 7, _ => exact i_1s h7
  | n + 8, hp => omega
def kNL (cw : va_W) : Prop := yKN cw ∧ yKL cw
theorem kNL_st : y_Kst (ytb ywS1) kNL := fun cw cw' hs h => ⟨KN_st cw cw' hs h.1, KL_st cw cw' hs h.2⟩
theorem F_out {cw : va_W} {tg : List yC} {cw' : va_W} {tys' : List (ClassId × FieldType)} {rv : Option Value} (h : y_XC zcls (fun cw => yKm ycFR.2.2.2.2 cw ∧ yKN cw) (ytb yw00) ycFR [] cw tg cw' tys' rv) : rv = none ∧ kNL cw' ∧ y_same (ytb yw00).1.length ycFR.2.2.2.2 cw cw' ∧ ∃ tg' : List yC, (∀ (p : Nat) (t : yC), tg[p]? = some t → tg'[p]? = some t) ∧ y_WT (ytb yw00) zcls tys' tg' cw' := by
  obtain ⟨tg', o, h1, h2, h3, h4, h5, h6, h7, h8⟩ := h
  refine ⟨?_, ⟨h8.2, h8.1 991 (by decide +kernel) (by decide) (by decide)⟩, h6, tg', h5, h7⟩
  have hx : ∀ o ∈ ycFR.2.2.2.1, o.1 = none := y_forall rfl <| y_fornil
  rw [hx o h1] at h2
  match rv, h2 with
  | none, _ => rfl
  | some _, h2 => exact h2.elim
theorem B_out {cw : va_W} {tg : List yC} {cw' : va_W} {tys' : List (ClassId × FieldType)} {rv : Option Value} (h : y_XC zcls (fun cw => yKm ycBH.2.2.2.2 cw ∧ yKN cw ∧ yKL cw) (ytb yw00) ycBH [] cw tg cw' tys' rv) : rv = none ∧ K3 cw' ∧ y_same (ytb yw00).1.length ycBH.2.2.2.2 cw cw' ∧ ∃ tg' : List yC, (∀ (p : Nat) (t : yC), tg[p]? = some t → tg'[p]? = some t) ∧ y_WT (ytb yw00) zcls tys' tg' cw' := by
  obtain ⟨tg', o, h1, h2, h3, h4, h5, h6, h7, h8⟩ := h
  have hx : ∀ o ∈ ycBH.2.2.2.1, o.1 = none ∧ o.2.2 = itBH ∧ (114, 88, D0) ∈ o.2.1 ∧ (114, 87, D0) ∈ o.2.1 := y_forall ⟨rfl, rfl, List.mem_of_getElem? (i := 0) rfl, List.mem_of_getElem? (i := 8) rfl⟩ <| y_fornil
  obtain ⟨x1, x2, x3, x4⟩ := hx o h1
  rw [x2] at h4
  have hp := itBH_V (y_AI_V (sR := [188]) (sF := []) (y_forall rfl <| y_forall rfl <| y_forall rfl <| y_forall rfl <| y_forall rfl <| y_forall rfl <| y_forall rfl <| y_forall rfl <| y_fornil) h4)
  have hp : ∀ p : Nat, p < 8 → ((UV cw').1 rPT p).toInt = 0 := fun p q => hp p q
  obtain ⟨_, a, ci, vs, x, y1, y2, y3⟩ := h3 _ x3
  obtain ⟨_, a', ci', vs', x', z1, z2, z3⟩ := h3 _ x4
  have e1 : (UV cw').2 cM fIY = x := y_fld_eq y1 y2
  have e2 : (UV cw').2 cM fTrn = x' := y_fld_eq z1 z2
  have hL := PL_ext (y_agr_U sR_L sF_L cw') h8.2.2.2
  refine ⟨?_, ⟨h8.2.1, h8.2.2, pres_T h7, PT_ext (y_agr_sym (y_agr_U sR_T sF_T cw')) (ld_T hL.1 (by rw [e2]; exact i_1s z3) (by rw [e1]; exact i_1s y3) hp)⟩, h6, tg', h5, h7⟩
  rw [x1] at h2
  match rv, h2 with
  | none, _ => rfl
  | some _, h2 => exact h2.elim
