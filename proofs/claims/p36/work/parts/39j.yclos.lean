-- closings
theorem y_vo_len {V : yVw} : ∀ {pat : List (Nat × Nat × Nat)} {gs : List Int32}, y_vo pat gs V → gs.length = 2 * pat.length
  | [], [], _ => rfl
  | (0, _, _) :: ps, x :: y :: gs, h => by have := y_vo_len h.2; simp only [List.length_cons]; omega
  | (1, _, _) :: ps, x :: y :: gs, h => by have := y_vo_len (pat := ps) (gs := gs) h; simp only [List.length_cons]; omega
  | (2, _, _) :: ps, x :: y :: gs, h => by have := y_vo_len h.2.2; simp only [List.length_cons]; omega
  | (3, _, _) :: ps, x :: y :: gs, h => by have := y_vo_len h.2; simp only [List.length_cons]; omega
theorem i_upd {f : Nat → Int32} {i j : Nat} {y : Int32} : upd f i y j = if j = i then y else f j := rfl
theorem i_e0 {x y : Int32} {d : Nat} (h : y_in [(d, d)] (z_b (x - y))) (h2 : -100000 ≤ y.toInt ∧ y.toInt ≤ 100000) (h3 : 2147383648 ≤ d ∧ d ≤ 2147583648) : x.toInt = y.toInt + ((d : Int) - 2147483648) := by
  have b := i_1s h
  obtain ⟨k, e, g⟩ := i_sub x y
  have := i_bd x
  generalize (x - y) = w at *
  omega
theorem cl_wMany0_ok : y_ClV PL cl_wMany0 := by
  rintro V lv gs hP hO hA
  have hl := y_vo_len hO
  match gs, hl, hO, hA with
  | [a0, a1], _, hO, hA =>
    simp only [cl_wMany0, y_vo, y_va, y_AV, y_pV, y_op, i_sub0, List.cons_append, List.nil_append, List.getElem?_cons_zero, List.getElem?_cons_succ, Option.some.injEq, exists_eq_left', exists_eq_left, exists_and_left, and_true] at hA
    obtain ⟨⟨hB, hS, hJ⟩, hS2, hS3, hM, hW⟩ := hP
    simp only [cl_wMany0, y_va]
    have b := i_1s hA
    refine ⟨⟨hB, hS, hJ⟩, hS2, hS3, ?_, fun k hk => ?_⟩
    · show 0 ≤ a1.toInt ∧ a1.toInt ≤ 8
      omega
    · have hk : (k : Int) < a1.toInt := hk
      omega
theorem cl_wMany1_ok : y_ClV PL cl_wMany1 := by
  rintro V lv gs hP hO hA
  have hl := y_vo_len hO
  match gs, hl, hO, hA with
  | [a0, a1, a2, a3, a4, a5, a6, a7], _, hO, hA =>
    simp only [cl_wMany1, y_vo, y_va, y_AV, y_pV, y_op, i_sub0, List.cons_append, List.nil_append, List.getElem?_cons_zero, List.getElem?_cons_succ, Option.some.injEq, exists_eq_left', exists_eq_left, exists_and_left, and_true] at hA
    simp only [cl_wMany1, y_vo, y_va, y_AV, y_pV, y_op, i_sub0, List.cons_append, List.nil_append, List.getElem?_cons_zero, List.getElem?_cons_succ, Option.some.injEq, exists_eq_left', exists_eq_left, exists_and_left, and_true] at hO
    obtain ⟨⟨hB, hS, hJ⟩, hS2, hS3, hM, hW⟩ := hP
    simp only [cl_wMany1, y_va]
    obtain ⟨h1, h2, h3, h4, h5, h6, h7, h8⟩ := hA
    obtain ⟨o1, o2, o3⟩ := hO
    have b1 := i_1 h1
    have b2 := i_e0 h2 (by omega) (by omega)
    have b3 := i_e0 h3 (by omega) (by omega)
    have b4 := i_e0 h4 (by omega) (by omega)
    have b5 := i_1 h5
    have b6 := i_1 h6
    have b7 := i_1 h7
    obtain ⟨k7, e7, g7⟩ := i_add a7 a5
    have b8 := i_1s h8
    obtain ⟨k8, e8, g8⟩ := i_mul a7 a5
    have hz : a7.toInt = 0 ∨ a5.toInt = 0 := by
      have q1 : a7.toInt = 0 ∨ a7.toInt = 1 ∨ a7.toInt = 2 := by omega
      rcases q1 with q | q | q
      · exact Or.inl q
      · rw [q] at e8
        right
        omega
      · rw [q] at e8
        right
        omega
    have c2 := (i_c o2).2
    have c3 := (i_c o3).2
    refine ⟨⟨hB, hS, hJ⟩, hS2, hS3, ?_, fun k hk => ?_⟩
    · show 0 ≤ a1.toInt ∧ a1.toInt ≤ 8
      omega
    · have hk : (k : Int) < a1.toInt := hk
      show (0 ≤ (upd (V.1 142) a6.toNatClampNeg a7 k).toInt ∧ (upd (V.1 142) a6.toNatClampNeg a7 k).toInt ≤ 2) ∧ (0 ≤ (upd (V.1 143) a4.toNatClampNeg a5 k).toInt ∧ (upd (V.1 143) a4.toNatClampNeg a5 k).toInt ≤ 2) ∧ ((upd (V.1 142) a6.toNatClampNeg a7 k).toInt = 0 ∨ (upd (V.1 143) a4.toNatClampNeg a5 k).toInt = 0) ∧ 1 ≤ (upd (V.1 142) a6.toNatClampNeg a7 k).toInt + (upd (V.1 143) a4.toNatClampNeg a5 k).toInt
      rw [i_upd, i_upd, show a6.toNatClampNeg = a4.toNatClampNeg by omega]
      by_cases hkk : k = a4.toNatClampNeg
      · rw [if_pos hkk, if_pos hkk]
        omega
      · rw [if_neg hkk, if_neg hkk]
        exact hW k (by rw [o1] at *; dsimp only [cM, fWM]; omega)
