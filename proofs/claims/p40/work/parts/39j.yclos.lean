-- closings
theorem y_vo_len {V : yVw} : ∀ {pat : List (Nat × Nat × Nat)} {gs : List Int32}, y_vo pat gs V → gs.length = 2 * pat.length
  | [], [], _ => rfl
  | (0, _, _) :: ps, x :: y :: gs, h => by have := y_vo_len h.2; simp only [List.length_cons]; omega
  | (1, _, _) :: ps, x :: y :: gs, h => by have := y_vo_len (pat := ps) (gs := gs) h; simp only [List.length_cons]; omega
  | (2, _, _) :: ps, x :: y :: gs, h => by have := y_vo_len h.2.2; simp only [List.length_cons]; omega
  | (3, _, _) :: ps, x :: y :: gs, h => by have := y_vo_len h.2; simp only [List.length_cons]; omega
theorem i_upd {f : Nat → Int32} {i j : Nat} {y : Int32} : upd f i y j = if j = i then y else f j := rfl
theorem i_e0 {x y : Int32} {d : Nat} (h : y_in [(d, d)] (z_b (x - y))) (h2 : -100000 ≤ y.toInt ∧ y.toInt ≤ 100000) (h3 : 2147383648 ≤ d ∧ d ≤ 2147583648) : x.toInt = y.toInt + ((d : Int) - 2147483648) := by
  have b := i_1s h
  obtain ⟨k, e, g⟩ := i_sub x y
  have := i_bd x
  generalize (x - y) = w at *
  omega
theorem cl_wMany0_ok : y_ClV PL cl_wMany0 := by
  rintro V lv gs hP hO hA
  have hl := y_vo_len hO
  match gs, hl, hO, hA with
  | [a0, a1], _, hO, hA =>
    simp only [cl_wMany0, y_vo, y_va, y_AV, y_pV, y_op, i_sub0, Nat.reduceEqDiff, reduceIte, and_false, false_and, true_and, List.cons_append, List.nil_append, List.getElem?_cons_zero, List.getElem?_cons_succ, Option.some.injEq, exists_eq_left', exists_eq_left, exists_and_left, and_true] at hA
    obtain ⟨⟨hB, hS, hJ⟩, hS2, hS3, hM, hW⟩ := hP
    simp only [cl_wMany0, y_va]
    have b := i_1s hA
    refine ⟨⟨hB, hS, hJ⟩, hS2, hS3, ?_, fun k hk => ?_⟩
    · show 0 ≤ a1.toInt ∧ a1.toInt ≤ 8
      omega
    · have hk : (k : Int) < a1.toInt := hk
      omega
theorem cl_wMany1_ok : y_ClV PL cl_wMany1 := by
  rintro V lv gs hP hO hA
  have hl := y_vo_len hO
  match gs, hl, hO, hA with
  | [a0, a1, a2, a3, a4, a5, a6, a7], _, hO, hA =>
    simp only [cl_wMany1, y_vo, y_va, y_AV, y_pV, y_op, i_sub0, Nat.reduceEqDiff, reduceIte, and_false, false_and, true_and, List.cons_append, List.nil_append, List.getElem?_cons_zero, List.getElem?_cons_succ, Option.some.injEq, exists_eq_left', exists_eq_left, exists_and_left, and_true] at hA
    simp only [cl_wMany1, y_vo, y_va, y_AV, y_pV, y_op, i_sub0, Nat.reduceEqDiff, reduceIte, and_false, false_and, true_and, List.cons_append, List.nil_append, List.getElem?_cons_zero, List.getElem?_cons_succ, Option.some.injEq, exists_eq_left', exists_eq_left, exists_and_left, and_true] at hO
    obtain ⟨⟨hB, hS, hJ⟩, hS2, hS3, hM, hW⟩ := hP
    simp only [cl_wMany1, y_va]
    obtain ⟨h1, h2, h3, h4, h5, h6, h7, h8⟩ := hA
    obtain ⟨o1, o2, o3⟩ := hO
    have b1 := i_1 h1
    have b2 := i_e0 h2 (by omega) (by omega)
    have b3 := i_e0 h3 (by omega) (by omega)
    have b4 := i_e0 h4 (by omega) (by omega)
    have b5 := i_1 h5
    have b6 := i_1 h6
    have b7 := i_1 h7
    obtain ⟨k7, e7, g7⟩ := i_add a7 a5
    have b8 := i_1s h8
    obtain ⟨k8, e8, g8⟩ := i_mul a7 a5
    have hz : a7.toInt = 0 ∨ a5.toInt = 0 := by
      have q1 : a7.toInt = 0 ∨ a7.toInt = 1 ∨ a7.toInt = 2 := by omega
      rcases q1 with q | q | q
      · exact Or.inl q
      · rw [q] at e8
        right
        omega
      · rw [q] at e8
        right
        omega
    have c2 := (i_c o2).2
    have c3 := (i_c o3).2
    refine ⟨⟨hB, hS, hJ⟩, hS2, hS3, ?_, fun k hk => ?_⟩
    · show 0 ≤ a1.toInt ∧ a1.toInt ≤ 8
      omega
    · have hk : (k : Int) < a1.toInt := hk
      show (0 ≤ (upd (V.1 142) a6.toNatClampNeg a7 k).toInt ∧ (upd (V.1 142) a6.toNatClampNeg a7 k).toInt ≤ 2) ∧ (0 ≤ (upd (V.1 143) a4.toNatClampNeg a5 k).toInt ∧ (upd (V.1 143) a4.toNatClampNeg a5 k).toInt ≤ 2) ∧ ((upd (V.1 142) a6.toNatClampNeg a7 k).toInt = 0 ∨ (upd (V.1 143) a4.toNatClampNeg a5 k).toInt = 0) ∧ 1 ≤ (upd (V.1 142) a6.toNatClampNeg a7 k).toInt + (upd (V.1 143) a4.toNatClampNeg a5 k).toInt
      rw [i_upd, i_upd, show a6.toNatClampNeg = a4.toNatClampNeg by omega]
      by_cases hkk : k = a4.toNatClampNeg
      · rw [if_pos hkk, if_pos hkk]
        omega
      · rw [if_neg hkk, if_neg hkk]
        exact hW k (by rw [o1] at *; dsimp only [cM, fWM]; omega)
theorem i_same {x y : Int32} (h : y_in [(2147483648, 2147483648)] (z_b (x - y))) : x = y := y_ring4 _ _ (y_in_pt h)
theorem cl_E1_ok : y_ClV PT cl_E1 := by
  rintro V lv gs hP hO hA
  have hl := y_vo_len hO
  match gs, hl, hO, hA with
  | [a0, a1, a2, a3, a4, a5, a6, a7], _, hO, hA =>
    simp only [cl_E1, y_vo, y_va, y_AV, y_pV, y_op, i_sub0, Nat.reduceEqDiff, reduceIte, and_false, false_and, true_and, List.cons_append, List.nil_append, List.getElem?_cons_zero, List.getElem?_cons_succ, Option.some.injEq, exists_eq_left', exists_eq_left, exists_and_left, and_true] at hA
    simp only [cl_E1, y_vo, y_va, y_AV, y_pV, y_op, i_sub0, Nat.reduceEqDiff, reduceIte, and_false, false_and, true_and, List.cons_append, List.nil_append, List.getElem?_cons_zero, List.getElem?_cons_succ, Option.some.injEq, exists_eq_left', exists_eq_left, exists_and_left, and_true] at hO
    simp only [cl_E1, y_va, Nat.reduceEqDiff, reduceIte, and_false, false_and, true_and, and_true]
    obtain ⟨hL, hT1, hT2, hT3, hT4⟩ := hP
    obtain ⟨x, l1, h1, y, l2, h2, x', l3, h3, h4, x'', l4, h5, y', l5, h6, h7, h8, h9, h10, h11, h12⟩ := hA
    rw [l1] at l3 l4
    rw [l2] at l5
    cases l3
    cases l4
    cases l5
    obtain ⟨o0, o2, o3, o4, o6, o7⟩ := hO
    have b1 := i_1 h1
    have b2 := i_1 h2
    have b4 := i_1s h4
    obtain ⟨e1, e2⟩ := i_64 (s := x) (k := y) (by omega) (by omega)
    have q7 := i_same h7
    have q8 := i_same h8
    have q9 := i_e0 h9 (by omega) (by omega)
    have q10 := i_e0 h10 (by omega) (by omega)
    have q11 := i_same h11
    have q12 := i_same h12
    have c4 := (i_c o4).2
    have c2 := (i_c o2).2
    have c6 := (i_c o6).2
    have c3 := (i_c h3).2
    refine ⟨hL, hT1, ?_, hT3, hT4⟩
    intro p hp hpt k hk hkm
    have hpt : (V.1 188 p).toInt = 1 := hpt
    have hkm : (k : Int) < (V.1 185 p).toInt := hkm
    show (0 ≤ (upd (V.1 186) a4.toNatClampNeg a5 (64 * p + k)).toInt ∧ (upd (V.1 186) a4.toNatClampNeg a5 (64 * p + k)).toInt < (V.2 114 20).toInt) ∧ 0 ≤ (upd (V.1 187) a0.toNatClampNeg a1 (64 * p + k)).toInt ∧ (upd (V.1 187) a0.toNatClampNeg a1 (64 * p + k)).toInt ≤ 1 + (V.1 124 (upd (V.1 186) a4.toNatClampNeg a5 (64 * p + k)).toInt.toNat).toInt
    rw [i_upd, i_upd, show a0.toNatClampNeg = a4.toNatClampNeg by rw [q7, q8]]
    by_cases e : 64 * p + k = a4.toNatClampNeg
    · rw [if_pos e, if_pos e]
      have q8' : a4.toInt = 64 * x.toInt + y.toInt := by rw [q8]; exact e1
      have ep : p = x.toNatClampNeg := by omega
      have ek : k = y.toInt.toNat := by omega
      have base := hT2 p hp hpt (k + 32) (by omega) (by dsimp only [rPM]; rw [ep, b4]; omega)
      rw [show 64 * p + (k + 32) = a6.toNatClampNeg by omega] at base
      dsimp only [rPS, rPO, rISP, cM, fSec] at base
      rw [q11, q12, o7, o3, show a2.toNatClampNeg = a6.toNatClampNeg by omega]
      exact base
    · rw [if_neg e, if_neg e]
      exact hT2 p hp hpt k hk hkm
theorem cl_E2_ok : y_ClV PT cl_E2 := by
  rintro V lv gs hP hO hA
  have hl := y_vo_len hO
  match gs, hl, hO, hA with
  | [a0, a1, a2, a3], _, hO, hA =>
    simp only [cl_E2, y_vo, y_va, y_AV, y_pV, y_op, i_sub0, Nat.reduceEqDiff, reduceIte, and_false, false_and, true_and, List.cons_append, List.nil_append, List.getElem?_cons_zero, List.getElem?_cons_succ, Option.some.injEq, exists_eq_left', exists_eq_left, exists_and_left, and_true] at hA
    simp only [cl_E2, y_vo, y_va, y_AV, y_pV, y_op, i_sub0, Nat.reduceEqDiff, reduceIte, and_false, false_and, true_and, List.cons_append, List.nil_append, List.getElem?_cons_zero, List.getElem?_cons_succ, Option.some.injEq, exists_eq_left', exists_eq_left, exists_and_left, and_true] at hO
    simp only [cl_E2, y_va, Nat.reduceEqDiff, reduceIte, and_false, false_and, true_and, and_true]
    obtain ⟨hL, ⟨hN, hT1⟩, hT2, hT3, hT4⟩ := hP
    obtain ⟨h1, h2, h3⟩ := hA
    obtain ⟨o1, o2, o3⟩ := hO
    have b1 := i_same h1
    have b2 := i_1s h2
    have b3 := i_1s h3
    subst b1
    rw [o3] at b3
    refine ⟨hL, ⟨hN, fun t ht => ⟨?_, (hT1 t ht).2⟩⟩, ?_, hT3, hT4⟩
    · rcases (hT1 t ht).1 with q | ⟨q1, q2, q3⟩
      · exact Or.inl q
      · refine Or.inr ⟨q1, q2, ?_⟩
        show 1 ≤ (upd (V.1 185) a0.toNatClampNeg a1 (V.1 175 t).toInt.toNat).toInt ∧ (upd (V.1 185) a0.toNatClampNeg a1 (V.1 175 t).toInt.toNat).toInt ≤ 64
        rw [i_upd]
        by_cases e : (V.1 175 t).toInt.toNat = a0.toNatClampNeg
        · rw [if_pos e]; omega
        · rw [if_neg e]; exact q3
    · intro p hp hpt k hk hkm
      have hpt : (V.1 188 p).toInt = 1 := hpt
      have hkm : (k : Int) < (upd (V.1 185) a0.toNatClampNeg a1 p).toInt := hkm
      refine hT2 p hp hpt k hk ?_
      show (k : Int) < (V.1 185 p).toInt
      rw [i_upd] at hkm
      by_cases e : p = a0.toNatClampNeg
      · rw [if_pos e] at hkm
        rw [e]
        omega
      · rw [if_neg e] at hkm
        exact hkm
theorem cl_E3_ok : y_ClV PT cl_E3 := by
  rintro V lv gs hP hO hA
  have hl := y_vo_len hO
  match gs, hl, hO, hA with
  | [a0, a1, a2, a3, a4, a5, a6, a7], _, hO, hA =>
    simp only [cl_E3, y_vo, y_va, y_AV, y_pV, y_op, i_sub0, Nat.reduceEqDiff, reduceIte, and_false, false_and, true_and, List.cons_append, List.nil_append, List.getElem?_cons_zero, List.getElem?_cons_succ, Option.some.injEq, exists_eq_left', exists_eq_left, exists_and_left, and_true] at hA
    simp only [cl_E3, y_vo, y_va, y_AV, y_pV, y_op, i_sub0, Nat.reduceEqDiff, reduceIte, and_false, false_and, true_and, List.cons_append, List.nil_append, List.getElem?_cons_zero, List.getElem?_cons_succ, Option.some.injEq, exists_eq_left', exists_eq_left, exists_and_left, and_true] at hO
    simp only [cl_E3, y_va, Nat.reduceEqDiff, reduceIte, and_false, false_and, true_and, and_true]
    obtain ⟨hL, ⟨hN, hT1⟩, hT2, hT3, hT4⟩ := hP
    obtain ⟨h1, h2, h3, h4, h5, h6, h7, h8, h9, h10, h11, h12, h13, h14⟩ := hA
    obtain ⟨o0, o2, o3, o4, o6⟩ := hO
    have b2 := i_same h2
    subst b2
    have b1 := i_1 h1
    have b3 := i_1 h3
    have b4 := i_e0 h4 (by omega) (by omega)
    obtain ⟨e1, e2⟩ := i_64 (s := a0) (k := a3) (by omega) (by omega)
    have b7 := i_same h7
    have b8 := i_same h8
    have b9 := i_1 h9
    have b10 := i_1 h10
    have b11 := i_lt (n := 24) (by omega) (by omega) h11
    have b13 := i_1 h13
    have b14 := i_1 h14
    have c0 := (i_c o0).2
    have c4 := (i_c o4).2
    have c6 := (i_c o6).2
    have c12 := (i_c h12).2
    have e6 : a6.toInt = 64 * a0.toInt + a3.toInt := by rw [b8]; exact e1
    obtain ⟨k14, e14, g14⟩ := i_sub (V.1 124 a7.toNatClampNeg) a5
    refine ⟨hL, ⟨hN, fun t ht => ⟨?_, (hT1 t ht).2⟩⟩, ?_, hT3, hT4⟩
    · rcases (hT1 t ht).1 with q | ⟨q1, q2, q3⟩
      · exact Or.inl q
      · refine Or.inr ⟨q1, q2, ?_⟩
        show 1 ≤ (upd (V.1 185) a0.toNatClampNeg a1 (V.1 175 t).toInt.toNat).toInt ∧ (upd (V.1 185) a0.toNatClampNeg a1 (V.1 175 t).toInt.toNat).toInt ≤ 64
        rw [i_upd]
        by_cases e : (V.1 175 t).toInt.toNat = a0.toNatClampNeg
        · rw [if_pos e]; omega
        · rw [if_neg e]; exact q3
    · intro p hp hpt k hk hkm
      have hpt : (V.1 188 p).toInt = 1 := hpt
      have hkm : (k : Int) < (upd (V.1 185) a0.toNatClampNeg a1 p).toInt := hkm
      show (0 ≤ (upd (V.1 186) a6.toNatClampNeg a7 (64 * p + k)).toInt ∧ (upd (V.1 186) a6.toNatClampNeg a7 (64 * p + k)).toInt < (V.2 114 20).toInt) ∧ 0 ≤ (upd (V.1 187) a4.toNatClampNeg a5 (64 * p + k)).toInt ∧ (upd (V.1 187) a4.toNatClampNeg a5 (64 * p + k)).toInt ≤ 1 + (V.1 124 (upd (V.1 186) a6.toNatClampNeg a7 (64 * p + k)).toInt.toNat).toInt
      rw [i_upd, i_upd, show a4.toNatClampNeg = a6.toNatClampNeg by rw [b7, b8]]
      rw [i_upd] at hkm
      by_cases e : 64 * p + k = a6.toNatClampNeg
      · rw [if_pos e, if_pos e, show a7.toInt.toNat = a7.toNatClampNeg by omega]
        generalize V.1 124 a7.toNatClampNeg = q at *
        generalize (q - a5) = w at *
        omega
      · rw [if_neg e, if_neg e]
        refine hT2 p hp hpt k hk ?_
        show (k : Int) < (V.1 185 p).toInt
        by_cases ep : p = a0.toNatClampNeg
        · rw [if_pos ep] at hkm
          rw [ep, ← o3]
          omega
        · rw [if_neg ep] at hkm
          exact hkm
theorem i_sum {f : Nat → Int32} {p : Nat} {y : Int32} (hp : p < 8) : (upd f p y 0).toInt + (upd f p y 1).toInt + (upd f p y 2).toInt + (upd f p y 3).toInt + (upd f p y 4).toInt + (upd f p y 5).toInt + (upd f p y 6).toInt + (upd f p y 7).toInt = (f 0).toInt + (f 1).toInt + (f 2).toInt + (f 3).toInt + (f 4).toInt + (f 5).toInt + (f 6).toInt + (f 7).toInt + y.toInt - (f p).toInt := by
  match p, hp with
  | 0, _ => simp only [i_upd, Nat.reduceEqDiff, reduceIte]; omega
  | 1, _ => simp only [i_upd, Nat.reduceEqDiff, reduceIte]; omega
  | 2, _ => simp only [i_upd, Nat.reduceEqDiff, reduceIte]; omega
  | 3, _ => simp only [i_upd, Nat.reduceEqDiff, reduceIte]; omega
  | 4, _ => simp only [i_upd, Nat.reduceEqDiff, reduceIte]; omega
  | 5, _ => simp only [i_upd, Nat.reduceEqDiff, reduceIte]; omega
  | 6, _ => simp only [i_upd, Nat.reduceEqDiff, reduceIte]; omega
  | 7, _ => simp only [i_upd, Nat.reduceEqDiff, reduceIte]; omega
theorem cl_M1_ok : y_ClV PT cl_M1 := by
  rintro V lv gs hP hO hA
  have hl := y_vo_len hO
  match gs, hl, hO, hA with
  | [a0, a1, a2, a3, a4, a5, a6, a7, a8, a9, a10, a11], _, hO, hA =>
    simp only [cl_M1, y_vo, y_va, y_AV, y_pV, y_op, i_sub0, Nat.reduceEqDiff, reduceIte, and_false, false_and, true_and, List.cons_append, List.nil_append, List.getElem?_cons_zero, List.getElem?_cons_succ, Option.some.injEq, exists_eq_left', exists_eq_left, exists_and_left, and_true] at hA
    simp only [cl_M1, y_vo, y_va, y_AV, y_pV, y_op, i_sub0, Nat.reduceEqDiff, reduceIte, and_false, false_and, true_and, List.cons_append, List.nil_append, List.getElem?_cons_zero, List.getElem?_cons_succ, Option.some.injEq, exists_eq_left', exists_eq_left, exists_and_left, and_true] at hO
    simp only [cl_M1, y_va, Nat.reduceEqDiff, reduceIte, and_false, false_and, true_and, and_true]
    obtain ⟨hL, ⟨hN, hT1⟩, hT2, hT3, hP4, hC⟩ := hP
    obtain ⟨h1, h2, h3, h4, h5, h6, h7, h8, h9, h10⟩ := hA
    obtain ⟨o1, o2, o3, o4, o5, o6, o7⟩ := hO
    have b4 := i_same h4
    have b7 := i_same h7
    have b8 := i_same h8
    subst b4
    have b5 : a5.toInt = -1 := by rw [i_same h5]; exact i_m1
    have b2 := i_1 h2
    have b3 := i_lt (n := 200) (by omega) (by omega) h3
    have b6 := i_1 h6
    have b9 := i_1s h9
    have b10 := i_1s h10
    dsimp only [PT3, cM, fTrn, fIY, rTP, rPT, rPM, rTB] at hN hT1 hT3 hP4 hC
    have c2 := (i_c o2).2
    have c5 := (i_c o5).2
    have e8 : a10.toNatClampNeg = a8.toNatClampNeg := by rw [b7, b8]
    have b7' : a8.toInt = a7.toInt := by rw [b7]
    have hpl := i_pl (f := fun p => (V.1 188 p).toInt) hP4 (p := a8.toNatClampNeg) (by omega) (by show (V.1 188 a8.toNatClampNeg).toInt = 1; rw [← e8, ← o7]; omega)
    have b1 := i_e0 h1 (by rw [o1]; omega) (by omega)
    have e7 : a8.toInt = (V.1 175 a4.toNatClampNeg).toInt := by rw [b7, o4]
    refine ⟨hL, ⟨hN, fun t ht => ⟨?_, (hT1 t ht).2⟩⟩, ?_, ?_, ?_, ?_⟩
    · have ht : (t : Int) < (V.2 114 87).toInt := ht
      show (upd (V.1 175) a4.toNatClampNeg a5 t).toInt = -1 ∨ ((0 ≤ (upd (V.1 175) a4.toNatClampNeg a5 t).toInt ∧ (upd (V.1 175) a4.toNatClampNeg a5 t).toInt ≤ 7) ∧ (upd (V.1 188) a8.toNatClampNeg a9 (upd (V.1 175) a4.toNatClampNeg a5 t).toInt.toNat).toInt = 1 ∧ 1 ≤ (V.1 185 (upd (V.1 175) a4.toNatClampNeg a5 t).toInt.toNat).toInt ∧ (V.1 185 (upd (V.1 175) a4.toNatClampNeg a5 t).toInt.toNat).toInt ≤ 64)
      rw [i_upd]
      by_cases e : t = a4.toNatClampNeg
      · rw [if_pos e]
        exact Or.inl b5
      · rw [if_neg e]
        rcases (hT1 t ht).1 with q | ⟨q1, q2, q3⟩
        · exact Or.inl q
        · refine Or.inr ⟨q1, ?_, q3⟩
          have hd := hT3 a4.toNatClampNeg t (by omega) ht (Ne.symm e) (by omega)
          rw [i_upd, if_neg (by omega)]
          exact q2
    · intro p hp hpt k hk hkm
      have hpt : (upd (V.1 188) a8.toNatClampNeg a9 p).toInt = 1 := hpt
      rw [i_upd] at hpt
      by_cases e : p = a8.toNatClampNeg
      · rw [if_pos e] at hpt
        omega
      · rw [if_neg e] at hpt
        exact hT2 p hp hpt k hk hkm
    · intro t u ht hu htu h0
      have ht : (t : Int) < (V.2 114 87).toInt := ht
      have hu : (u : Int) < (V.2 114 87).toInt := hu
      have h0 : 0 ≤ (upd (V.1 175) a4.toNatClampNeg a5 t).toInt := h0
      show (upd (V.1 175) a4.toNatClampNeg a5 t).toInt ≠ (upd (V.1 175) a4.toNatClampNeg a5 u).toInt
      rw [i_upd] at h0 ⊢
      rw [i_upd]
      by_cases e : t = a4.toNatClampNeg
      · rw [if_pos e] at h0
        omega
      · rw [if_neg e] at h0 ⊢
        by_cases e2 : u = a4.toNatClampNeg
        · rw [if_pos e2]
          omega
        · rw [if_neg e2]
          exact hT3 t u ht hu htu h0
    · intro p hp
      show (upd (V.1 188) a8.toNatClampNeg a9 p).toInt = 0 ∨ (upd (V.1 188) a8.toNatClampNeg a9 p).toInt = 1
      rw [i_upd]
      by_cases e : p = a8.toNatClampNeg
      · rw [if_pos e]
        exact Or.inl (by omega)
      · rw [if_neg e]
        exact hP4 p hp
    · show (upd (V.1 188) a8.toNatClampNeg a9 0).toInt + (upd (V.1 188) a8.toNatClampNeg a9 1).toInt + (upd (V.1 188) a8.toNatClampNeg a9 2).toInt + (upd (V.1 188) a8.toNatClampNeg a9 3).toInt + (upd (V.1 188) a8.toNatClampNeg a9 4).toInt + (upd (V.1 188) a8.toNatClampNeg a9 5).toInt + (upd (V.1 188) a8.toNatClampNeg a9 6).toInt + (upd (V.1 188) a8.toNatClampNeg a9 7).toInt = a1.toInt
      rw [i_sum (by omega), hC, ← o1, ← e8, ← o7]
      omega
set_option maxRecDepth 20000 in
theorem cl_N1_ok : y_ClV PT cl_N1 := by
  rintro V lv gs hP hO hA
  have hl := y_vo_len hO
  match gs, hl, hO, hA with
  | [a0, a1, a2, a3, a4, a5, a6, a7, a8, a9, a10, a11, a12, a13, a14, a15, a16, a17, a18, a19, a20, a21, a22, a23, a24, a25], _, hO, hA =>
    simp only [cl_N1, y_vo, y_va, y_AV, y_pV, y_op, i_sub0, Nat.reduceEqDiff, reduceIte, and_false, false_and, true_and, List.cons_append, List.nil_append, List.getElem?_cons_zero, List.getElem?_cons_succ, Option.some.injEq, exists_eq_left', exists_eq_left, exists_and_left, and_true] at hA
    simp only [cl_N1, y_vo, y_va, y_AV, y_pV, y_op, i_sub0, Nat.reduceEqDiff, reduceIte, and_false, false_and, true_and, List.cons_append, List.nil_append, List.getElem?_cons_zero, List.getElem?_cons_succ, Option.some.injEq, exists_eq_left', exists_eq_left, exists_and_left, and_true] at hO
    simp only [cl_N1, y_va, Nat.reduceEqDiff, reduceIte, and_false, false_and, true_and, and_true]
    obtain ⟨hL, ⟨hN, hT1⟩, hT2, hT3, hP4, hC⟩ := hP
    obtain ⟨h1, h2, h3, h4, h5, h6, h7, h8, h9, h10, h11, h12, h13, h14, h15, h16, h17, h18, h19, h20, h21, h22, h23, h24, h25, h26⟩ := hA
    obtain ⟨o1, o2, o3, o4, o5, o6, o7, o8, o9, o10, o11, o12, o13⟩ := hO
    dsimp only [PT3, cM, fTrn, fIY, rTP, rPT, rPM, rTB] at hN hT1 hT3 hP4 hC
    have b2 := i_1 h2
    have b4 := i_1 h4
    have b5 := i_1 h5
    have b1 := i_e0 h1 (by omega) (by omega)
    have b3 := i_e0 h3 (by omega) (by omega)
    have n24 : a24.toNatClampNeg = a22.toNatClampNeg := by rw [i_same h6]
    have n20 : a20.toNatClampNeg = a22.toNatClampNeg := by rw [i_same h7]
    have n8 : a8.toNatClampNeg = a22.toNatClampNeg := by rw [i_same h8]
    have b9 : a9.toInt = 1 := by rw [i_same h10]; exact i_nI (by decide)
    have b23 : a23.toInt = 1 := by rw [i_same h13]; exact i_nI (by decide)
    have b25 := i_1s h14
    have n18 : a18.toNatClampNeg = a16.toNatClampNeg := by rw [i_same h15, i_same h17]
    have b16 : a16.toInt = a7.toInt := by rw [i_same h17]
    have b19 : a19.toInt = a22.toInt := by rw [i_same h16]
    have b17 := i_1 h18
    have e64 := (i_64 (s := a22) (k := a22) (by omega) (by omega)).2
    have n12 : a12.toNatClampNeg = a14.toNatClampNeg := by rw [i_same h20, i_same h21]
    have b14 : a14.toInt = 64 * a22.toInt := by rw [i_same h21]; exact e64
    have b15 := i_1 h22
    have b15' := i_lt (n := 24) (by omega) (by omega) h23
    have b24 := i_1s h25
    have b13 := i_1 h26
    have c22 := (i_c o11).2
    have c14 := (i_c o7).2
    have c16 := (i_c o8).2
    have c15 := (i_c h24).2
    rw [n24] at o13
    have hfree : (V.1 188 a22.toNatClampNeg).toInt = 0 := by rw [← o13]; omega
    have hno : ∀ t : Nat, (t : Int) < (V.2 114 87).toInt → 0 ≤ (V.1 175 t).toInt → (V.1 175 t).toInt ≠ a22.toInt := fun t ht h0 e => by
      rcases (hT1 t ht).1 with q | ⟨q1, q2, q3⟩
      · omega
      · rw [show (V.1 175 t).toInt.toNat = a22.toNatClampNeg by omega] at q2
        omega
    have hN7 : (V.2 114 87).toInt = a7.toInt := by rw [o2]
    refine ⟨hL, ⟨?_, fun t ht => ?_⟩, ?_, ?_, ?_, ?_⟩
    · show 0 ≤ a5.toInt ∧ a5.toInt ≤ 200
      omega
    · have ht : (t : Int) < a5.toInt := ht
      show ((upd (V.1 175) a18.toNatClampNeg a19 t).toInt = -1 ∨ ((0 ≤ (upd (V.1 175) a18.toNatClampNeg a19 t).toInt ∧ (upd (V.1 175) a18.toNatClampNeg a19 t).toInt ≤ 7) ∧ (upd (V.1 188) a22.toNatClampNeg a23 (upd (V.1 175) a18.toNatClampNeg a19 t).toInt.toNat).toInt = 1 ∧ 1 ≤ (upd (upd (V.1 185) a20.toNatClampNeg a21) a8.toNatClampNeg a9 (upd (V.1 175) a18.toNatClampNeg a19 t).toInt.toNat).toInt ∧ (upd (upd (V.1 185) a20.toNatClampNeg a21) a8.toNatClampNeg a9 (upd (V.1 175) a18.toNatClampNeg a19 t).toInt.toNat).toInt ≤ 64)) ∧ 1 ≤ (upd (V.1 179) a16.toNatClampNeg a17 t).toInt ∧ (upd (V.1 179) a16.toNatClampNeg a17 t).toInt ≤ 5
      rw [n18, n20, n8]
      simp only [i_upd]
      by_cases e : t = a16.toNatClampNeg
      · rw [if_pos e, if_pos e]
        refine ⟨Or.inr ⟨by omega, ?_, ?_⟩, by omega⟩
        · rw [if_pos (by omega)]
          exact b23
        · rw [if_pos (by omega)]
          omega
      · rw [if_neg e, if_neg e]
        have ht' : (t : Int) < (V.2 114 87).toInt := by omega
        refine ⟨?_, (hT1 t ht').2⟩
        rcases (hT1 t ht').1 with q | ⟨q1, q2, q3⟩
        · exact Or.inl q
        · have := hno t ht' q1.1
          refine Or.inr ⟨q1, ?_, ?_⟩
          · rw [if_neg (by omega)]
            exact q2
          · rw [if_neg (by omega), if_neg (by omega)]
            exact q3
    · intro p hp hpt k hk hkm
      have hpt : (upd (V.1 188) a22.toNatClampNeg a23 p).toInt = 1 := hpt
      have hkm : (k : Int) < (upd (upd (V.1 185) a20.toNatClampNeg a21) a8.toNatClampNeg a9 p).toInt := hkm
      show (0 ≤ (upd (V.1 186) a14.toNatClampNeg a15 (64 * p + k)).toInt ∧ (upd (V.1 186) a14.toNatClampNeg a15 (64 * p + k)).toInt < (V.2 114 20).toInt) ∧ 0 ≤ (upd (V.1 187) a12.toNatClampNeg a13 (64 * p + k)).toInt ∧ (upd (V.1 187) a12.toNatClampNeg a13 (64 * p + k)).toInt ≤ 1 + (V.1 124 (upd (V.1 186) a14.toNatClampNeg a15 (64 * p + k)).toInt.toNat).toInt
      rw [n20, n8] at hkm
      rw [n12]
      simp only [i_upd] at hpt hkm ⊢
      by_cases e : p = a22.toNatClampNeg
      · rw [if_pos e] at hkm
        rw [if_pos (show 64 * p + k = a14.toNatClampNeg by omega), if_pos (show 64 * p + k = a14.toNatClampNeg by omega), show a15.toInt.toNat = a15.toNatClampNeg by omega]
        omega
      · rw [if_neg e] at hpt
        rw [if_neg e, if_neg e] at hkm
        rw [if_neg (show ¬ 64 * p + k = a14.toNatClampNeg by omega), if_neg (show ¬ 64 * p + k = a14.toNatClampNeg by omega)]
        exact hT2 p hp hpt k hk hkm
    · intro t u ht hu htu h0
      have ht : (t : Int) < a5.toInt := ht
      have hu : (u : Int) < a5.toInt := hu
      have h0 : 0 ≤ (upd (V.1 175) a18.toNatClampNeg a19 t).toInt := h0
      show (upd (V.1 175) a18.toNatClampNeg a19 t).toInt ≠ (upd (V.1 175) a18.toNatClampNeg a19 u).toInt
      rw [n18] at h0 ⊢
      simp only [i_upd] at h0 ⊢
      by_cases e : t = a16.toNatClampNeg
      · rw [if_pos e, if_neg (by omega)]
        intro z
        exact hno u (by omega) (by omega) (by omega)
      · rw [if_neg e] at h0 ⊢
        by_cases e2 : u = a16.toNatClampNeg
        · rw [if_pos e2]
          intro z
          exact hno t (by omega) h0 (by omega)
        · rw [if_neg e2]
          exact hT3 t u (by omega) (by omega) htu h0
    · intro p hp
      show (upd (V.1 188) a22.toNatClampNeg a23 p).toInt = 0 ∨ (upd (V.1 188) a22.toNatClampNeg a23 p).toInt = 1
      rw [i_upd]
      by_cases e : p = a22.toNatClampNeg
      · rw [if_pos e]
        exact Or.inr b23
      · rw [if_neg e]
        exact hP4 p hp
    · show (upd (V.1 188) a22.toNatClampNeg a23 0).toInt + (upd (V.1 188) a22.toNatClampNeg a23 1).toInt + (upd (V.1 188) a22.toNatClampNeg a23 2).toInt + (upd (V.1 188) a22.toNatClampNeg a23 3).toInt + (upd (V.1 188) a22.toNatClampNeg a23 4).toInt + (upd (V.1 188) a22.toNatClampNeg a23 5).toInt + (upd (V.1 188) a22.toNatClampNeg a23 6).toInt + (upd (V.1 188) a22.toNatClampNeg a23 7).toInt = a1.toInt
      rw [i_sum (by omega), hC, ← o1]
      omega
