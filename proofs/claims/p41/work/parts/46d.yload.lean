-- the families
def D72 : yD := [(2147483639, 2147483639), (2147483648, 2147483719)]
def D16 : yD := [(2147483639, 2147483639), (2147483648, 2147483663)]
def D0 : yD := [(2147483648, 2147483648)]
def itB : List yIt := [.inr (1, (1, 114, 20, []), (1, 114, 10, []), D0), .inr (1, (1, 114, 27, []), (1, 114, 17, []), D0)]
def itE (i a c n : Nat) (E : yD) : List yIt := [.inl ((2, i, 0, []), a, E), .inl ((2, i, 0, []), c, E), .inr (1, (3, n, 0, []), (3, n + 1, 0, []), D0)]
def itS (g : Nat) : List yIt := itB ++ (itE (3 * g) 128 120 2 D72 ++ (itE (3 * g + 1) 128 120 5 D72 ++ (itE (3 * g + 2) 128 120 8 D72 ++ (itE (2 * g) 129 121 11 D16 ++ (itE (2 * g + 1) 129 121 14 D16 ++ itE g 124 116 17 [(2147483648, 2147483649)])))))
def itK (g : Nat) : List yIt := itB ++ (itE g 130 122 2 [(2147483648, 2147483671)] ++ itE g 131 123 5 [(2147483648, 2147483649)])
def itF (f g : Nat) : List yIt := itB ++ [.inr (1, (1, 114, f, []), (2, g, 0, []), [(2147483624, 2147483648)])]
def itR (g : Nat) : List yIt := [.inl ((2, g, 0, []), 122, [(2147483648, 2147483671)]), .inl ((2, g, 0, []), 123, [(2147483648, 2147483649)]), .inr (2, (2, 3, 0, []), (3, 0, 0, []), [(2147483648, 2147483717)]), .inr (0, (3, 2, 0, []), (3, 1, 0, []), [(2147483648, 2147483719)]), .inl ((3, 3, 0, []), 120, [(2147483648, 2147483719)])]
def itRf (g : Nat) : List yIt := [.inr (1, (1, 114, 17, []), (2, g, 0, []), [(2147483632, 2147483648)])]
def yOI (c : yCN) : List (List yIt) := c.2.2.2.1.map fun o => o.2.2
def yOT (c : yCN) : List (Option yT) := c.2.2.2.1.map fun o => o.1
theorem yall_lt {n : Nat} {p : Nat → Bool} (h : (List.range n).all p = true) : ∀ g : Nat, g < n → p g = true := fun g hg => List.all_eq_true.mp h g (List.mem_range.mpr hg)
def ySumD {a b : Type} [DecidableEq a] [DecidableEq b] : DecidableEq (a ⊕ b)
  | .inl x, .inl y => decidable_of_iff (x = y) (by simp)
  | .inr x, .inr y => decidable_of_iff (x = y) (by simp)
  | .inl _, .inr _ => isFalse (by simp)
  | .inr _, .inl _ => isFalse (by simp)
def yPlD : DecidableEq yPl := inferInstance
def yDD : DecidableEq yD := inferInstance
def yPDD : DecidableEq (yPl × yD) := inferInstance
def yPPDD : DecidableEq (yPl × yPl × yD) := letI := yPDD; inferInstance
def yElD : DecidableEq yEl := inferInstance
def yRelD : DecidableEq yRel := letI := yPPDD; instDecidableEqProd
def yItD : DecidableEq yIt := letI := yElD; letI := yRelD; ySumD
def yTD2 : DecidableEq (List Nat ⊕ Nat) := ySumD
def yTD : DecidableEq yT := letI := yDD; letI := yTD2; ySumD
def yOID : DecidableEq (Option (List (List yIt))) := letI := yItD; inferInstance
def yOTD : DecidableEq (Option (List (Option yT))) := letI := yTD; inferInstance
theorem famS : ∀ g : Nat, g < 24 → (yfS[g]?).map yOI = some [itS g, itF 20 g] := fun g hg => @of_decide_eq_true _ (yOID _ _) (yall_lt (n := 24) (p := fun g => @decide ((yfS[g]?).map yOI = some [itS g, itF 20 g]) (yOID _ _)) (by decide +kernel) g hg)
theorem famK : ∀ g : Nat, g < 16 → (yfK[g]?).map yOI = some [itK g, itF 27 g] := fun g hg => @of_decide_eq_true _ (yOID _ _) (yall_lt (n := 16) (p := fun g => @decide ((yfK[g]?).map yOI = some [itK g, itF 27 g]) (yOID _ _)) (by decide +kernel) g hg)
theorem famR : ∀ g : Nat, g < 16 → (yfR[g]?).map yOI = some [itRf g, [], itR g] := fun g hg => @of_decide_eq_true _ (yOID _ _) (yall_lt (n := 16) (p := fun g => @decide ((yfR[g]?).map yOI = some [itRf g, [], itR g]) (yOID _ _)) (by decide +kernel) g hg)
theorem famRt : ∀ g : Nat, g < 16 → (yfR[g]?).map yOT = some [some (.inl [(2147483649, 2147483649)]), some (.inl [(2147483648, 2147483648)]), some (.inl [(2147483649, 2147483649)])] := fun g hg => @of_decide_eq_true _ (yOTD _ _) (yall_lt (n := 16) (p := fun g => @decide ((yfR[g]?).map yOT = some [some (.inl [(2147483649, 2147483649)]), some (.inl [(2147483648, 2147483648)]), some (.inl [(2147483649, 2147483649)])]) (yOTD _ _)) (by decide +kernel) g hg)
def U (cw : va_W) : yVw := (y_row cw, y_fld cw)
theorem U_eq {sR : List Nat} {sF : List (Nat × Nat)} (cw : va_W) : (∀ r ∈ sR, (y_vws sR sF cw).1 r = (U cw).1 r) ∧ ∀ q ∈ sF, (y_vws sR sF cw).2 q.1 q.2 = (U cw).2 q.1 q.2 := ⟨fun r hr => if_pos hr, fun q hq => if_pos hq⟩
def sRA : List Nat := [116, 120, 121, 122, 123, 124, 128, 129, 130, 131]
def sFA : List (Nat × Nat) := [(114, 10), (114, 17), (114, 20), (114, 27)]
theorem itS_V {V : yVw} {lv : List (Nat × Value)} {g : Nat} (hg : g < 24) (h : y_AV V lv [] (itS g)) : FE V ∧ FS V g := by
  simp only [itS, itB, itE, D0, List.cons_append, List.nil_append, y_AV, y_pV, y_op, List.getElem?_cons_zero, List.getElem?_cons_succ, Option.some.injEq, exists_eq_left', exists_eq_left, exists_and_left, and_true] at h
  rw [i_cn (show 3 * g < 2147483648 by omega), i_cn (show 3 * g + 1 < 2147483648 by omega), i_cn (show 3 * g + 2 < 2147483648 by omega), i_cn (show 2 * g < 2147483648 by omega), i_cn (show 2 * g + 1 < 2147483648 by omega), i_cn (show g < 2147483648 by omega)] at h
  obtain ⟨h1, h2, -, -, -, -, h3, -, -, -, -, h4, -, -, -, -, h5, -, -, -, -, h6, -, -, -, -, h7, -, -, -, -, h8⟩ := h
  exact ⟨⟨by rw [i_same h1], by rw [i_same h2]⟩, Or.inr ⟨⟨i_same h3, i_same h4, i_same h5⟩, ⟨i_same h6, i_same h7⟩, i_same h8⟩⟩
theorem itK_V {V : yVw} {lv : List (Nat × Value)} {g : Nat} (hg : g < 16) (h : y_AV V lv [] (itK g)) : FE V ∧ FK V g := by
  simp only [itK, itB, itE, D0, List.cons_append, List.nil_append, y_AV, y_pV, y_op, List.getElem?_cons_zero, List.getElem?_cons_succ, Option.some.injEq, exists_eq_left', exists_eq_left, exists_and_left, and_true] at h
  rw [i_cn (show g < 2147483648 by omega)] at h
  obtain ⟨h1, h2, -, -, -, -, h3, -, -, -, -, h4⟩ := h
  exact ⟨⟨by rw [i_same h1], by rw [i_same h2]⟩, Or.inr ⟨i_same h3, i_same h4⟩⟩
theorem itF_V {V : yVw} {lv : List (Nat × Value)} {f g : Nat} (hg : g < 24) (h : y_AV V lv [] (itF f g)) : FE V ∧ (V.2 cM f).toInt ≤ g := by
  simp only [itF, itB, D0, List.cons_append, List.nil_append, y_AV, y_pV, y_op, exists_eq_left', exists_eq_left, exists_and_left, and_true] at h
  obtain ⟨h1, h2, h3⟩ := h
  refine ⟨⟨by rw [i_same h1], by rw [i_same h2]⟩, ?_⟩
  have b := i_1 h3
  obtain ⟨k, e, q⟩ := i_sub (V.2 114 f) (nI g)
  have := i_nI (u := g) (by omega)
  have := i_bd (V.2 114 f)
  generalize (V.2 114 f - nI g) = w at *
  show (V.2 114 f).toInt ≤ g
  omega
theorem itR_V {V : yVw} {lv : List (Nat × Value)} {g : Nat} (hg : g < 16) (h : y_AV V lv [] (itR g)) : FR V g := by
  simp only [itR, List.cons_append, List.nil_append, y_AV, y_pV, y_op, List.getElem?_cons_zero, List.getElem?_cons_succ, Option.some.injEq, exists_eq_left', exists_eq_left, exists_and_left, and_true] at h
  rw [i_cn (show g < 2147483648 by omega)] at h
  obtain ⟨-, h1, -, h2, h3, h4, h5, h6⟩ := h
  right
  have b1 := i_1 h1
  have b2 := i_1 h2
  obtain ⟨e1, e2⟩ := i_3s (s := V.1 122 g) (k := V.1 123 g) (i_in (by omega) (by omega)) (i_in (by omega) (by omega))
  have c := (i_c h5).2
  have b6 := i_1 h6
  show 0 ≤ (V.1 120 (3 * (V.1 122 g).toInt + (V.1 123 g).toInt).toNat).toInt
  rw [show (3 * (V.1 122 g).toInt + (V.1 123 g).toInt).toNat = (nI 3 * V.1 122 g + V.1 123 g).toNatClampNeg by omega]
  omega
theorem itRf_V {V : yVw} {lv : List (Nat × Value)} {g : Nat} (hg : g < 16) (h : y_AV V lv [] (itRf g)) : FR V g := by
  simp only [itRf, y_AV, y_pV, y_op, exists_eq_left', exists_eq_left, exists_and_left, and_true] at h
  left
  have b := i_1 h
  obtain ⟨k, e, q⟩ := i_sub (V.2 114 17) (nI g)
  have := i_nI (u := g) (by omega)
  have := i_bd (V.2 114 17)
  generalize (V.2 114 17 - nI g) = w at *
  show (V.2 114 17).toInt ≤ g
  omega
