-- load: what its pieces say
theorem FR_ext {V V' : yVw} {g : Nat} (h : y_agr sR_N sF_N V V') (hF : FR V g) : FR V' g := by
  have a1 : V.1 rNJ = V'.1 rNJ := h.1 _ (by decide)
  have a2 : V.1 rNS = V'.1 rNS := h.1 _ (by decide)
  have a3 : V.1 rNE = V'.1 rNE := h.1 _ (by decide)
  have b1 : V.2 cM fNSi = V'.2 cM fNSi := h.2 (114, 17) (by decide)
  unfold FR at hF ⊢
  rw [a1, a2, a3, b1] at hF
  exact hF
theorem rowB {tys : List (ClassId × FieldType)} {tg : List yC} {cw : va_W} (hW : y_WT (ytb yw00) zcls tys tg cw) {g : Nat} (hg : g < 16) : (0 ≤ ((UV cw).1 rNS g).toInt ∧ ((UV cw).1 rNS g).toInt ≤ 23) ∧ 0 ≤ ((UV cw).1 rNE g).toInt ∧ ((UV cw).1 rNE g).toInt ≤ 1 := by
  obtain ⟨a1, c1, f1, g1, k1⟩ := y_rowOf (r := 122) (len := 16) (E := [(2147483648, 2147483671)]) hW rfl (by decide)
  obtain ⟨a2, c2, f2, g2, k2⟩ := y_rowOf (r := 123) (len := 16) (E := [(2147483648, 2147483649)]) hW rfl (by decide)
  have e1 : (UV cw).1 rNS = f1 := y_row_eq g1
  have e2 : (UV cw).1 rNE = f2 := y_row_eq g2
  rw [e1, e2]
  have b1 := i_1 (k1 g hg)
  have b2 := i_1 (k2 g hg)
  omega
theorem rowP {tys : List (ClassId × FieldType)} {tg : List yC} {cw : va_W} (hW : y_WT (ytb yw00) zcls tys tg cw) : PB (UV cw) rISP := by
  obtain ⟨a1, c1, f1, g1, k1⟩ := y_rowOf (r := 124) (len := 24) (E := [(2147483648, 2147483649)]) hW rfl (by decide)
  have e1 : (UV cw).1 rISP = f1 := y_row_eq g1
  intro s hs
  rw [e1]
  have b1 := i_1 (k1 s hs)
  omega
theorem y_mem_OI {c : yCN} {o : yOut} (h : o ∈ c.2.2.2.1) : ∃ i : Nat, (yOI c)[i]? = some o.2.2 ∧ (yOT c)[i]? = some o.1 := by
  obtain ⟨i, hi⟩ := List.mem_iff_getElem?.mp h
  exact ⟨i, by unfold yOI; rw [List.getElem?_map, hi]; rfl, by unfold yOT; rw [List.getElem?_map, hi]; rfl⟩
theorem y_int1 {x : Int32} {n : Nat} (hn : n < 2147483648) (h : y_in [(n + 2147483648, n + 2147483648)] (z_b x)) : x = nI n := by
  have h1 := i_1 h
  have h2 := i_nI (u := n) hn
  exact Int32.toInt_inj.mp (by omega)
def kR (c : yCN) (cw : va_W) : Prop := yKm c.2.2.2.2 cw ∧ yKL cw ∧ yKTt cw
def kT (c : yCN) (cw : va_W) : Prop := yKm c.2.2.2.2 cw ∧ yKN cw ∧ yKW cw
theorem R_out {cw : va_W} {tg : List yC} {cw' : va_W} {tys' : List (ClassId × FieldType)} {rv : Option Value} (h : XF zcls kR (ytb yw00) yfR ycRL cw tg cw' tys' rv) : (rv = some (.int (nI 0)) ∨ (rv = some (.int (nI 1)) ∧ ∀ g : Nat, g < 16 → FR (UV cw') g)) ∧ K3 cw' ∧ y_same (ytb yw00).1.length ycRL.2.2.2.2 cw cw' ∧ ∃ tg' : List yC, (∀ (p : Nat) (t : yC), tg[p]? = some t → tg'[p]? = some t) ∧ y_WT (ytb yw00) zcls tys' tg' cw' := by
  obtain ⟨⟨tg', o, h1, h2, h3, h4, h5, h6, h7, h8⟩, hall⟩ := h
  refine ⟨?_, ⟨h8.1 990 (by decide +kernel) (by decide) (by decide), h8.2⟩, h6, tg', h5, h7⟩
  have hv : rv = some (.int (nI 0)) ∨ rv = some (.int (nI 1)) := by
    have hx : ∀ o ∈ ycRL.2.2.2.1, o.1 = some (.inl [(2147483649, 2147483649)]) ∨ o.1 = some (.inl [(2147483648, 2147483648)]) := y_forall (Or.inl rfl) <| y_forall (Or.inr rfl) <| y_forall (Or.inl rfl) <| y_fornil
    rcases hx o h1 with q | q
    · rw [q] at h2
      match rv, h2 with
      | some v, ⟨x, e, hx⟩ =>
        rw [e, y_int1 (n := 1) (by decide) hx]
        exact Or.inr rfl
      | none, h2 => exact h2.elim
    · rw [q] at h2
      match rv, h2 with
      | some v, ⟨x, e, hx⟩ =>
        rw [e, y_int1 (n := 0) (by decide) hx]
        exact Or.inl rfl
      | none, h2 => exact h2.elim
  rcases hv with hv | hv
  · exact Or.inl hv
  refine Or.inr ⟨hv, fun g hg => ?_⟩
  have hI := famR g hg
  have hT := famRt g hg
  obtain ⟨c, hc, hI⟩ := Option.map_eq_some_iff.mp hI
  rw [hc] at hT
  have hT : yOT c = _ := Option.some.inj hT
  obtain ⟨cw2, tys2, ⟨tg2, o2, k1, k2, k3, k4, k5, k6, k7, k8⟩, hag⟩ := hall c (List.mem_of_getElem? hc)
  obtain ⟨hb1, hb2⟩ := rowB k7 hg
  refine FR_ag hg hag hb1 hb2 (FR_ext (V := y_vws sRA sFA cw2) ⟨fun r hr => (y_agr_U sRA sFA cw2).1 r ((by decide : ∀ r ∈ sR_N, r ∈ sRA) r hr), fun q hq => (y_agr_U sRA sFA cw2).2 q ((by decide : ∀ q ∈ sF_N, q ∈ sFA) q hq)⟩ ?_)
  obtain ⟨i, i1, i2⟩ := y_mem_OI k1
  rw [hI] at i1
  rw [hT] at i2
  match i, i1, i2 with
  | 0, i1, _ =>
    have e : itRf g = o2.2.2 := Option.some.inj i1
    rw [← e] at k4
    exact itRf_V hg (y_AI_V (y_forall rfl <| y_fornil) k4)
  | 1, _, i2 =>
    have e : some (.inl [(2147483648, 2147483648)]) = o2.1 := Option.some.inj i2
    rw [← e, hv] at k2
    obtain ⟨x, e1, e2⟩ := k2
    have := y_int1 (n := 0) (by decide) e2
    cases e1
    exact absurd this (by decide)
  | 2, i1, _ =>
    have e : itR g = o2.2.2 := Option.some.inj i1
    rw [← e] at k4
    exact itR_V hg (y_AI_V (y_forall rfl <| y_forall rfl <| y_forall rfl <| y_forall rfl <| y_forall rfl <| y_fornil) k4)
  | n + 3, i1, _ => cases i1
theorem T_out {cw : va_W} {tg : List yC} {cw' : va_W} {tys' : List (ClassId × FieldType)} {rv : Option Value} (h : XF zcls kT (ytb yw00) yfT ycTL cw tg cw' tys' rv) : rv = none ∧ (FE (UV cw') ∧ (∀ g : Nat, g < 24 → FS (UV cw') g) ∧ ∀ g : Nat, g < 16 → FK (UV cw') g) ∧ (yKN cw' ∧ yKW cw') ∧ y_same (ytb yw00).1.length ycTL.2.2.2.2 cw cw' ∧ ∃ tg' : List yC, (∀ (p : Nat) (t : yC), tg[p]? = some t → tg'[p]? = some t) ∧ y_WT (ytb yw00) zcls tys' tg' cw' := by
  obtain ⟨⟨tg', o, h1, h2, h3, h4, h5, h6, h7, h8⟩, hall⟩ := h
  have hS : ∀ g : Nat, g < 24 → FE (UV cw') ∧ FS (UV cw') g := fun g hg => by
    obtain ⟨c, hc, hI⟩ := Option.map_eq_some_iff.mp (famS g hg)
    obtain ⟨cw2, tys2, ⟨tg2, o2, k1, k2, k3, k4, k5, k6, k7, k8⟩, hag⟩ := hall c (yfT_S hg hc)
    have hag := AG_tr (AG_U cw2) hag
    obtain ⟨i, i1, i2⟩ := y_mem_OI k1
    rw [hI] at i1
    match i, i1 with
    | 0, i1 =>
      have e : itS g = o2.2.2 := Option.some.inj i1
      rw [← e] at k4
      obtain ⟨z1, z2⟩ := itS_V hg (y_AI_V (sR := sRA) (sF := sFA) (y_forall rfl <| y_forall rfl <| y_forall rfl <| y_forall rfl <| y_forall rfl <| y_forall rfl <| y_forall rfl <| y_forall rfl <| y_forall rfl <| y_forall rfl <| y_forall rfl <| y_forall rfl <| y_forall rfl <| y_forall rfl <| y_forall rfl <| y_forall rfl <| y_forall rfl <| y_forall rfl <| y_forall rfl <| y_forall rfl <| y_fornil) k4)
      exact ⟨FE_ag hag z1, FS_ag hg hag z2⟩
    | 1, i1 =>
      have e : itF 20 g = o2.2.2 := Option.some.inj i1
      rw [← e] at k4
      obtain ⟨z1, z2⟩ := itF_V (f := 20) (by omega) (y_AI_V (sR := sRA) (sF := sFA) (y_forall rfl <| y_forall rfl <| y_forall rfl <| y_fornil) k4)
      exact ⟨FE_ag hag z1, FS_ag hg hag (Or.inl z2)⟩
    | n + 2, i1 => cases i1
  have hK : ∀ g : Nat, g < 16 → FK (UV cw') g := fun g hg => by
    obtain ⟨c, hc, hI⟩ := Option.map_eq_some_iff.mp (famK g hg)
    obtain ⟨cw2, tys2, ⟨tg2, o2, k1, k2, k3, k4, k5, k6, k7, k8⟩, hag⟩ := hall c (yfT_K hg hc)
    have hag := AG_tr (AG_U cw2) hag
    obtain ⟨i, i1, i2⟩ := y_mem_OI k1
    rw [hI] at i1
    match i, i1 with
    | 0, i1 =>
      have e : itK g = o2.2.2 := Option.some.inj i1
      rw [← e] at k4
      obtain ⟨z1, z2⟩ := itK_V hg (y_AI_V (sR := sRA) (sF := sFA) (y_forall rfl <| y_forall rfl <| y_forall rfl <| y_forall rfl <| y_forall rfl <| y_forall rfl <| y_forall rfl <| y_forall rfl <| y_fornil) k4)
      exact FK_ag hg hag z2
    | 1, i1 =>
      have e : itF 27 g = o2.2.2 := Option.some.inj i1
      rw [← e] at k4
      obtain ⟨z1, z2⟩ := itF_V (f := 27) (by omega) (y_AI_V (sR := sRA) (sF := sFA) (y_forall rfl <| y_forall rfl <| y_forall rfl <| y_fornil) k4)
      exact FK_ag hg hag (Or.inl z2)
    | n + 2, i1 => cases i1
  refine ⟨?_, ⟨(hS 0 (by decide)).1, fun g hg => (hS g hg).2, hK⟩, h8.2, h6, tg', h5, h7⟩
  have hx : ∀ o ∈ ycTL.2.2.2.1, o.1 = none := y_forall rfl <| y_forall rfl <| y_fornil
  rw [hx o h1] at h2
  match rv, h2 with
  | none, _ => rfl
  | some _, h2 => exact h2.elim
