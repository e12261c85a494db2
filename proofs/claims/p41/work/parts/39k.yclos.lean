-- what is read
def PN2 (V : yVw) : Prop := ∀ s : Nat, (s : Int) < (V.2 cM fNSe).toInt → ∀ e : Nat, e ≤ 1 → (V.1 rNA (2 * s + e)).toInt = -9 ∨ (0 ≤ (V.1 rNA (2 * s + e)).toInt ∧ (V.1 rNA (2 * s + e)).toInt < (V.2 cM fNSi).toInt ∧ (V.1 rNS (V.1 rNA (2 * s + e)).toInt.toNat).toInt = s ∧ (V.1 rNE (V.1 rNA (2 * s + e)).toInt.toNat).toInt = e)
def PN3 (V : yVw) : Prop := (0 ≤ (V.2 cM fNSi).toInt ∧ (V.2 cM fNSi).toInt ≤ 16) ∧ ∀ k : Nat, (k : Int) < (V.2 cM fNSi).toInt → (0 ≤ (V.1 rNS k).toInt ∧ (V.1 rNS k).toInt < (V.2 cM fNSe).toInt) ∧ 0 ≤ (V.1 rNE k).toInt ∧ (V.1 rNE k).toInt ≤ 1
def PN (V : yVw) : Prop := (PB V rNP ∧ PJ V rNJ rNP fNSe) ∧ PN2 V ∧ PN3 V
theorem cl_R0_ok : y_ClV PN cl_R0 := by
  rintro V lv gs hP hO hA
  have hl := y_vo_len hO
  match gs, hl, hO, hA with
  | [a0, a1, a2, a3], _, hO, hA =>
    simp only [cl_R0, y_vo, y_va, y_AV, y_pV, y_op, i_sub0, Nat.reduceEqDiff, reduceIte, and_false, false_and, true_and, List.cons_append, List.nil_append, List.getElem?_cons_zero, List.getElem?_cons_succ, Option.some.injEq, exists_eq_left', exists_eq_left, exists_and_left, and_true] at hA
    simp only [cl_R0, y_va, Nat.reduceEqDiff, reduceIte, and_false, false_and, true_and, and_true]
    obtain ⟨⟨hB, hS, hJ⟩, h2, h3⟩ := hP
    obtain ⟨h1, h4⟩ := hA
    have b1 := i_1s h1
    have b4 := i_1s h4
    refine ⟨⟨hB, ?_, fun i hi => ?_⟩, fun s hs => ?_, ?_, fun k hk => ?_⟩
    · show 0 ≤ a3.toInt ∧ a3.toInt ≤ 24
      omega
    · have hi : (i : Int) < 3 * a3.toInt := hi
      omega
    · have hs : (s : Int) < a3.toInt := hs
      omega
    · show 0 ≤ a1.toInt ∧ a1.toInt ≤ 16
      omega
    · have hk : (k : Int) < a1.toInt := hk
      omega
theorem i_p3 {s : Int32} (h1 : 0 ≤ s.toInt ∧ s.toInt ≤ 1000) : (nI 3 * s).toInt = 3 * s.toInt ∧ (nI 2 * s).toInt = 2 * s.toInt := by
  obtain ⟨k1, e1, g1⟩ := i_mul (nI 3) s
  obtain ⟨k2, e2, g2⟩ := i_mul (nI 2) s
  rw [i_nI (by decide)] at e1 e2
  constructor <;> omega
theorem i_gN {V : yVw} {rp : Nat} {S v : Int32} (hS : S.toInt ≤ 24) (h1 : y_in [(2147483648, 2147483719)] (z_b v)) (h6 : y_in [(2147483647, 2147483649)] (z_b (V.1 rp (v / nI 3).toNatClampNeg - (v - v / nI 3 * nI 3)))) (h5 : y_in [(2147483648, 2147483649)] (z_b (V.1 rp (v / nI 3).toNatClampNeg))) (h7 : y_in [(2147483624, 2147483647)] (z_b (v / nI 3 - S))) : 0 ≤ v.toInt ∧ v.toInt < 3 * S.toInt ∧ v.toInt % 3 ≤ 1 + (V.1 rp (v.toInt / 3).toNat).toInt := by
  have b1 := i_1 h1
  have d1 : (v / nI 3).toInt = v.toInt / 3 := (i_d3 (v := v) (by omega) (by omega)).1
  have d2 : (v - v / nI 3 * nI 3).toInt = v.toInt % 3 := (i_d3 (v := v) (by omega) (by omega)).2
  generalize (v - v / nI 3 * nI 3) = r at *
  generalize v / nI 3 = q at *
  have c := (i_cc (x := q) (by omega)).2
  have b7 := i_lt (n := 24) (by omega) (by omega) h7
  have b6 := i_1 h6
  have b5 := i_1 h5
  rw [show (v.toInt / 3).toNat = q.toNatClampNeg by omega]
  generalize V.1 rp q.toNatClampNeg = p at *
  obtain ⟨k, e, g⟩ := i_sub p r
  generalize (p - r) = w at *
  omega
theorem cl_S1_ok : y_ClV PN cl_S1 := by
  rintro V lv gs hP hO hA
  have hl := y_vo_len hO
  match gs, hl, hO, hA with
  | [a0, a1, a2, a3, a4, a5, a6, a7, a8, a9, a10, a11], _, hO, hA =>
    simp only [cl_S1, y_vo, y_va, y_AV, y_pV, y_op, i_sub0, Nat.reduceEqDiff, reduceIte, and_false, false_and, true_and, List.cons_append, List.nil_append, List.getElem?_cons_zero, List.getElem?_cons_succ, Option.some.injEq, exists_eq_left', exists_eq_left, exists_and_left, and_true] at hA
    simp only [cl_S1, y_vo, y_va, y_AV, y_pV, y_op, i_sub0, Nat.reduceEqDiff, reduceIte, and_false, false_and, true_and, List.cons_append, List.nil_append, List.getElem?_cons_zero, List.getElem?_cons_succ, Option.some.injEq, exists_eq_left', exists_eq_left, exists_and_left, and_true] at hO
    simp only [cl_S1, y_va, Nat.reduceEqDiff, reduceIte, and_false, false_and, true_and, and_true]
    obtain ⟨⟨hB, hS, hJ⟩, hN2, hY, hN3⟩ := hP
    obtain ⟨x, l1, h1, x1, l2, h2, x2, l3, h3, h4, x3, l4, h5, x4, l5, h6, h7, h8, h9, h10, h11, h12, h13, h14, h15, h16⟩ := hA
    rw [l1] at l2 l3 l4 l5
    cases l2
    cases l3
    cases l4
    cases l5
    obtain ⟨o0, o2, o4, o6, o8, o10⟩ := hO
    dsimp only [PB, PN2, cM, fNSe, fNSi, rNJ, rNP, rNA, rNS, rNE] at hB hS hJ hN2 hY hN3
    have b1 := i_1 h1
    have b4 := i_1 h4
    obtain ⟨e3, e2⟩ := i_p3 (s := x) (by omega)
    have hZ : x.toInt = (V.2 114 10).toInt := by rw [i_same h2]
    have c10 : a10.toNatClampNeg = x.toInt.toNat := by have := (i_c o10).2; rw [i_same h3] at *; omega
    have c4 : a4.toNatClampNeg = 3 * x.toInt.toNat + 2 := by have := (i_c o4).2; have := i_e0 h7 (by omega) (by omega); omega
    have c6 : a6.toNatClampNeg = 3 * x.toInt.toNat + 1 := by have := (i_c o6).2; have := i_e0 h8 (by omega) (by omega); omega
    have c8 : a8.toNatClampNeg = 3 * x.toInt.toNat := by have := (i_c o8).2; have := i_e0 h9 (by omega) (by omega); omega
    have c0 : a0.toNatClampNeg = 2 * x.toInt.toNat + 1 := by have := (i_c o0).2; have := i_e0 h10 (by omega) (by omega); omega
    have c2 : a2.toNatClampNeg = 2 * x.toInt.toNat := by have := (i_c o2).2; have := i_e0 h11 (by omega) (by omega); omega
    have m1 : a1.toInt = -9 := by rw [i_same h12]; exact i_m9
    have m3 : a3.toInt = -9 := by rw [i_same h13]; exact i_m9
    have m5 : a5.toInt = -9 := by rw [i_same h14]; exact i_m9
    have m7 : a7.toInt = -9 := by rw [i_same h15]; exact i_m9
    have m9 : a9.toInt = -9 := by rw [i_same h16]; exact i_m9
    refine ⟨⟨fun s hs => ?_, ?_, fun i hi => ?_⟩, fun s hs e he => ?_, hY, fun k hk => ?_⟩
    · show 0 ≤ (upd (V.1 116) a10.toNatClampNeg a11 s).toInt ∧ (upd (V.1 116) a10.toNatClampNeg a11 s).toInt ≤ 1
      rw [i_upd]
      by_cases e : s = a10.toNatClampNeg
      · rw [if_pos e]; omega
      · rw [if_neg e]; exact hB s hs
    · show 0 ≤ (V.2 114 10).toInt ∧ (V.2 114 10).toInt ≤ 24
      omega
    · have hi : (i : Int) < 3 * (V.2 114 10).toInt := hi
      show (upd (upd (upd (V.1 120) a8.toNatClampNeg a9) a6.toNatClampNeg a7) a4.toNatClampNeg a5 i).toInt = -9 ∨ (0 ≤ (upd (upd (upd (V.1 120) a8.toNatClampNeg a9) a6.toNatClampNeg a7) a4.toNatClampNeg a5 i).toInt ∧ (upd (upd (upd (V.1 120) a8.toNatClampNeg a9) a6.toNatClampNeg a7) a4.toNatClampNeg a5 i).toInt < 3 * (V.2 114 10).toInt ∧ (upd (upd (upd (V.1 120) a8.toNatClampNeg a9) a6.toNatClampNeg a7) a4.toNatClampNeg a5 i).toInt % 3 ≤ 1 + (upd (V.1 116) a10.toNatClampNeg a11 ((upd (upd (upd (V.1 120) a8.toNatClampNeg a9) a6.toNatClampNeg a7) a4.toNatClampNeg a5 i).toInt / 3).toNat).toInt)
      simp only [i_upd, c4, c6, c8, c10]
      rw [if_neg (by omega), if_neg (by omega), if_neg (by omega)]
      rcases hJ i hi with q | ⟨q1, q2, q3⟩
      · exact Or.inl q
      · refine Or.inr ⟨q1, q2, ?_⟩
        rw [if_neg (by omega)]
        exact q3
    · have hs : (s : Int) < (V.2 114 10).toInt := hs
      show (upd (upd (V.1 121) a2.toNatClampNeg a3) a0.toNatClampNeg a1 (2 * s + e)).toInt = -9 ∨ (0 ≤ (upd (upd (V.1 121) a2.toNatClampNeg a3) a0.toNatClampNeg a1 (2 * s + e)).toInt ∧ (upd (upd (V.1 121) a2.toNatClampNeg a3) a0.toNatClampNeg a1 (2 * s + e)).toInt < (V.2 114 17).toInt ∧ (V.1 122 (upd (upd (V.1 121) a2.toNatClampNeg a3) a0.toNatClampNeg a1 (2 * s + e)).toInt.toNat).toInt = s ∧ (V.1 123 (upd (upd (V.1 121) a2.toNatClampNeg a3) a0.toNatClampNeg a1 (2 * s + e)).toInt.toNat).toInt = e)
      simp only [i_upd, c0, c2]
      rw [if_neg (by omega), if_neg (by omega)]
      exact hN2 s hs e he
    · exact hN3 k hk
theorem cl_S2_ok : y_ClV PN cl_S2 := by
  rintro V lv gs hP hO hA
  have hl := y_vo_len hO
  match gs, hl, hO, hA with
  | [a0, a1, a2, a3, a4, a5, a6, a7, a8, a9, a10, a11, a12, a13, a14, a15], _, hO, hA =>
    simp only [cl_S2, y_vo, y_va, y_AV, y_pV, y_op, i_sub0, Nat.reduceEqDiff, reduceIte, and_false, false_and, true_and, List.cons_append, List.nil_append, List.getElem?_cons_zero, List.getElem?_cons_succ, Option.some.injEq, exists_eq_left', exists_eq_left, exists_and_left, and_true] at hA
    simp only [cl_S2, y_vo, y_va, y_AV, y_pV, y_op, i_sub0, Nat.reduceEqDiff, reduceIte, and_false, false_and, true_and, List.cons_append, List.nil_append, List.getElem?_cons_zero, List.getElem?_cons_succ, Option.some.injEq, exists_eq_left', exists_eq_left, exists_and_left, and_true] at hO
    simp only [cl_S2, y_va, Nat.reduceEqDiff, reduceIte, and_false, false_and, true_and, and_true]
    obtain ⟨⟨hB, hS, hJ⟩, hN2, hY, hN3⟩ := hP
    obtain ⟨x, l1, h1, x1, l2, h2, x2, l3, h3, h4, x3, l4, h5, x4, l5, h6, h7, h8, h9, h10, h11, h12, h13, h14, h15, h16, h17⟩ := hA
    rw [l1] at l2 l3 l4 l5
    cases l2
    cases l3
    cases l4
    cases l5
    obtain ⟨oz, o0, o2, o4, o6, o8, o10⟩ := hO
    dsimp only [PB, PN2, cM, fNSe, fNSi, rNJ, rNP, rNA, rNS, rNE] at hB hS hJ hN2 hY hN3
    have b1 := i_1 h1
    have b4 := i_1 h4
    obtain ⟨e3, e2⟩ := i_p3 (s := x) (by omega)
    have hZ : x.toInt = (V.2 114 10).toInt := by rw [i_same h2, oz]
    have b17 := i_e0 h17 (by rw [← i_same h2]; omega) (by omega)
    have hx3 : a3.toInt = x.toInt := by rw [← i_same h2]
    have c10 : a14.toNatClampNeg = x.toInt.toNat := by have := (i_c o10).2; rw [i_same h3] at *; omega
    have c4 : a8.toNatClampNeg = 3 * x.toInt.toNat + 2 := by have := (i_c o4).2; have := i_e0 h7 (by omega) (by omega); omega
    have c6 : a10.toNatClampNeg = 3 * x.toInt.toNat + 1 := by have := (i_c o6).2; have := i_e0 h8 (by omega) (by omega); omega
    have c8 : a12.toNatClampNeg = 3 * x.toInt.toNat := by have := (i_c o8).2; have := i_e0 h9 (by omega) (by omega); omega
    have c0 : a4.toNatClampNeg = 2 * x.toInt.toNat + 1 := by have := (i_c o0).2; have := i_e0 h10 (by omega) (by omega); omega
    have c2 : a6.toNatClampNeg = 2 * x.toInt.toNat := by have := (i_c o2).2; have := i_e0 h11 (by omega) (by omega); omega
    have m1 : a5.toInt = -9 := by rw [i_same h12]; exact i_m9
    have m3 : a7.toInt = -9 := by rw [i_same h13]; exact i_m9
    have m5 : a9.toInt = -9 := by rw [i_same h14]; exact i_m9
    have m7 : a11.toInt = -9 := by rw [i_same h15]; exact i_m9
    have m9 : a13.toInt = -9 := by rw [i_same h16]; exact i_m9
    refine ⟨⟨fun s hs => ?_, ?_, fun i hi => ?_⟩, fun s hs e he => ?_, hY, fun k hk => ?_⟩
    · show 0 ≤ (upd (V.1 116) a14.toNatClampNeg a15 s).toInt ∧ (upd (V.1 116) a14.toNatClampNeg a15 s).toInt ≤ 1
      rw [i_upd]
      by_cases e : s = a14.toNatClampNeg
      · rw [if_pos e]; omega
      · rw [if_neg e]; exact hB s hs
    · show 0 ≤ a1.toInt ∧ a1.toInt ≤ 24
      omega
    · have hi : (i : Int) < 3 * a1.toInt := hi
      show (upd (upd (upd (V.1 120) a12.toNatClampNeg a13) a10.toNatClampNeg a11) a8.toNatClampNeg a9 i).toInt = -9 ∨ (0 ≤ (upd (upd (upd (V.1 120) a12.toNatClampNeg a13) a10.toNatClampNeg a11) a8.toNatClampNeg a9 i).toInt ∧ (upd (upd (upd (V.1 120) a12.toNatClampNeg a13) a10.toNatClampNeg a11) a8.toNatClampNeg a9 i).toInt < 3 * a1.toInt ∧ (upd (upd (upd (V.1 120) a12.toNatClampNeg a13) a10.toNatClampNeg a11) a8.toNatClampNeg a9 i).toInt % 3 ≤ 1 + (upd (V.1 116) a14.toNatClampNeg a15 ((upd (upd (upd (V.1 120) a12.toNatClampNeg a13) a10.toNatClampNeg a11) a8.toNatClampNeg a9 i).toInt / 3).toNat).toInt)
      simp only [i_upd, c4, c6, c8, c10]
      by_cases z1 : i = 3 * x.toInt.toNat + 2
      · rw [if_pos z1]; exact Or.inl m5
      rw [if_neg z1]
      by_cases z2 : i = 3 * x.toInt.toNat + 1
      · rw [if_pos z2]; exact Or.inl m7
      rw [if_neg z2]
      by_cases z3 : i = 3 * x.toInt.toNat
      · rw [if_pos z3]; exact Or.inl m9
      rw [if_neg z3]
      rcases hJ i (by omega) with q | ⟨q1, q2, q3⟩
      · exact Or.inl q
      · refine Or.inr ⟨q1, by omega, ?_⟩
        rw [if_neg (by omega)]
        exact q3
    · have hs : (s : Int) < a1.toInt := hs
      show (upd (upd (V.1 121) a6.toNatClampNeg a7) a4.toNatClampNeg a5 (2 * s + e)).toInt = -9 ∨ (0 ≤ (upd (upd (V.1 121) a6.toNatClampNeg a7) a4.toNatClampNeg a5 (2 * s + e)).toInt ∧ (upd (upd (V.1 121) a6.toNatClampNeg a7) a4.toNatClampNeg a5 (2 * s + e)).toInt < (V.2 114 17).toInt ∧ (V.1 122 (upd (upd (V.1 121) a6.toNatClampNeg a7) a4.toNatClampNeg a5 (2 * s + e)).toInt.toNat).toInt = s ∧ (V.1 123 (upd (upd (V.1 121) a6.toNatClampNeg a7) a4.toNatClampNeg a5 (2 * s + e)).toInt.toNat).toInt = e)
      simp only [i_upd, c0, c2]
      by_cases z1 : 2 * s + e = 2 * x.toInt.toNat + 1
      · rw [if_pos z1]; exact Or.inl m1
      rw [if_neg z1]
      by_cases z2 : 2 * s + e = 2 * x.toInt.toNat
      · rw [if_pos z2]; exact Or.inl m3
      rw [if_neg z2]
      exact hN2 s (by omega) e he
    · have hk : (k : Int) < (V.2 114 17).toInt := hk
      have q := hN3 k hk
      exact ⟨⟨q.1.1, by show (V.1 122 k).toInt < a1.toInt; omega⟩, q.2⟩
theorem cl_J1_ok : y_ClV PN cl_J1 := by
  rintro V lv gs hP hO hA
  have hl := y_vo_len hO
  match gs, hl, hO, hA with
  | [a0, a1, a2, a3, a4, a5], _, hO, hA =>
    simp only [cl_J1, y_vo, y_va, y_AV, y_pV, y_op, i_sub0, Nat.reduceEqDiff, reduceIte, and_false, false_and, true_and, List.cons_append, List.nil_append, List.getElem?_cons_zero, List.getElem?_cons_succ, Option.some.injEq, exists_eq_left', exists_eq_left, exists_and_left, and_true] at hA
    simp only [cl_J1, y_vo, y_va, y_AV, y_pV, y_op, i_sub0, Nat.reduceEqDiff, reduceIte, and_false, false_and, true_and, List.cons_append, List.nil_append, List.getElem?_cons_zero, List.getElem?_cons_succ, Option.some.injEq, exists_eq_left', exists_eq_left, exists_and_left, and_true] at hO
    simp only [cl_J1, y_va, Nat.reduceEqDiff, reduceIte, and_false, false_and, true_and, and_true]
    obtain ⟨⟨hB, hS, hJ⟩, hN⟩ := hP
    obtain ⟨h1, h2, h3, h4, h5, h6, h7, h8, h9, k3, k4, k5, k6, k7, k8, k9⟩ := hA
    dsimp only [cM, fNSe, rNJ, rNP] at hS hJ
    have g0 := i_gN hS.2 h3 h8 h7 h9
    have g1 := i_gN hS.2 k3 k8 k7 k9
    refine ⟨⟨hB, hS, fun i hi => ?_⟩, hN⟩
    have hi : (i : Int) < 3 * (V.2 114 10).toInt := hi
    show (upd (upd (V.1 120) a2.toNatClampNeg a3) a0.toNatClampNeg a1 i).toInt = -9 ∨ (0 ≤ (upd (upd (V.1 120) a2.toNatClampNeg a3) a0.toNatClampNeg a1 i).toInt ∧ (upd (upd (V.1 120) a2.toNatClampNeg a3) a0.toNatClampNeg a1 i).toInt < 3 * (V.2 114 10).toInt ∧ (upd (upd (V.1 120) a2.toNatClampNeg a3) a0.toNatClampNeg a1 i).toInt % 3 ≤ 1 + (V.1 116 ((upd (upd (V.1 120) a2.toNatClampNeg a3) a0.toNatClampNeg a1 i).toInt / 3).toNat).toInt)
    simp only [i_upd]
    by_cases z1 : i = a0.toNatClampNeg
    · rw [if_pos z1]; exact Or.inr g1
    rw [if_neg z1]
    by_cases z2 : i = a2.toNatClampNeg
    · rw [if_pos z2, ← i_same h1]; exact Or.inr g0
    rw [if_neg z2]
    exact hJ i hi
theorem cl_G1_ok : y_ClV PN cl_G1 := by
  rintro V lv gs hP hO hA
  have hl := y_vo_len hO
  match gs, hl, hO, hA with
  | [a0, a1, a2, a3, a4, a5, a6, a7, a8, a9, a10, a11], _, hO, hA =>
    simp only [cl_G1, y_vo, y_va, y_AV, y_pV, y_op, i_sub0, Nat.reduceEqDiff, reduceIte, and_false, false_and, true_and, List.cons_append, List.nil_append, List.getElem?_cons_zero, List.getElem?_cons_succ, Option.some.injEq, exists_eq_left', exists_eq_left, exists_and_left, and_true] at hA
    simp only [cl_G1, y_vo, y_va, y_AV, y_pV, y_op, i_sub0, Nat.reduceEqDiff, reduceIte, and_false, false_and, true_and, List.cons_append, List.nil_append, List.getElem?_cons_zero, List.getElem?_cons_succ, Option.some.injEq, exists_eq_left', exists_eq_left, exists_and_left, and_true] at hO
    simp only [cl_G1, y_va, Nat.reduceEqDiff, reduceIte, and_false, false_and, true_and, and_true]
    obtain ⟨hBJ, hN2, hY, hN3⟩ := hP
    obtain ⟨h1, h2, h3, h4, h5, h6, h7, h8, h9, h10, h11, h12, h13⟩ := hA
    obtain ⟨o1, o2, o3, o4, o5, o6⟩ := hO
    dsimp only [PN2, cM, fNSe, fNSi, rNA, rNS, rNE] at hN2 hY hN3
    have b1 := i_1 h1
    have b2 := i_e0 h2 (by omega) (by omega)
    have b6 := i_1 h6
    have b7 := i_lt (n := 24) (by omega) (by omega) h7
    have b8 := i_1 h8
    have e2 := (i_2s (s := a11) (k := a9) (by omega) (by omega)).1
    have b5 : a5.toInt = a3.toInt := by rw [i_same h3]
    have c8 : a8.toNatClampNeg = a3.toInt.toNat := by have := (i_c o5).2; rw [i_same h4] at *; omega
    have c10 : a10.toNatClampNeg = a3.toInt.toNat := by have := (i_c o6).2; rw [i_same h5] at *; omega
    have b4 : a4.toInt = 2 * a11.toInt + a9.toInt := by rw [i_same h11]; exact e2
    have c4 := (i_c o2).2
    have hZ : a3.toInt = (V.2 114 17).toInt := by rw [o1]
    refine ⟨hBJ, fun s hs e he => ?_, ?_, fun k hk => ?_⟩
    · have hs : (s : Int) < (V.2 114 10).toInt := hs
      show (upd (V.1 121) a4.toNatClampNeg a5 (2 * s + e)).toInt = -9 ∨ (0 ≤ (upd (V.1 121) a4.toNatClampNeg a5 (2 * s + e)).toInt ∧ (upd (V.1 121) a4.toNatClampNeg a5 (2 * s + e)).toInt < a1.toInt ∧ (upd (V.1 122) a10.toNatClampNeg a11 (upd (V.1 121) a4.toNatClampNeg a5 (2 * s + e)).toInt.toNat).toInt = s ∧ (upd (V.1 123) a8.toNatClampNeg a9 (upd (V.1 121) a4.toNatClampNeg a5 (2 * s + e)).toInt.toNat).toInt = e)
      simp only [i_upd, c8, c10]
      by_cases z : 2 * s + e = a4.toNatClampNeg
      · rw [if_pos z, if_pos (by omega), if_pos (by omega)]
        exact Or.inr (by omega)
      · rw [if_neg z]
        rcases hN2 s hs e he with q | ⟨q1, q2, q3, q4⟩
        · exact Or.inl q
        · refine Or.inr ⟨q1, by omega, ?_, ?_⟩
          · rw [if_neg (by omega)]; exact q3
          · rw [if_neg (by omega)]; exact q4
    · show 0 ≤ a1.toInt ∧ a1.toInt ≤ 16
      omega
    · have hk : (k : Int) < a1.toInt := hk
      show (0 ≤ (upd (V.1 122) a10.toNatClampNeg a11 k).toInt ∧ (upd (V.1 122) a10.toNatClampNeg a11 k).toInt < (V.2 114 10).toInt) ∧ 0 ≤ (upd (V.1 123) a8.toNatClampNeg a9 k).toInt ∧ (upd (V.1 123) a8.toNatClampNeg a9 k).toInt ≤ 1
      simp only [i_upd, c8, c10]
      by_cases z : k = a3.toInt.toNat
      · rw [if_pos z, if_pos z]; omega
      · rw [if_neg z, if_neg z]; exact hN3 k (by omega)
