-- numbers
theorem i_b (x : Int32) : (z_b x : Int) = x.toInt + 2147483648 := by have := z_b_int x; omega
theorem i_1 {a c : Nat} {x : Int32} (h : y_in [(a, c)] (z_b x)) : (a : Int) - 2147483648 ≤ x.toInt ∧ x.toInt ≤ (c : Int) - 2147483648 := by
  have e := i_b x
  rcases y_in_cons.mp h with q | q
  · have q1 := q.1
    have q2 := q.2
    dsimp only at q1 q2
    omega
  · exact absurd q y_in_nil
theorem i_2 {a c d e : Nat} {x : Int32} (h : y_in [(a, c), (d, e)] (z_b x)) : ((a : Int) - 2147483648 ≤ x.toInt ∧ x.toInt ≤ (c : Int) - 2147483648) ∨ ((d : Int) - 2147483648 ≤ x.toInt ∧ x.toInt ≤ (e : Int) - 2147483648) := by
  have ee := i_b x
  rcases y_in_cons.mp h with q | q
  · have q1 := q.1
    have q2 := q.2
    dsimp only at q1 q2
    exact Or.inl (by omega)
  · exact Or.inr (i_1 q)
theorem i_in {a c : Nat} {x : Int32} (h1 : (a : Int) - 2147483648 ≤ x.toInt) (h2 : x.toInt ≤ (c : Int) - 2147483648) : y_in [(a, c)] (z_b x) := by
  have e := i_b x
  exact y_in_iv (by omega) (by omega)
theorem i_bd (x : Int32) : -2147483648 ≤ x.toInt ∧ x.toInt ≤ 2147483647 := by
  have := i_b x
  have := y_b_lt x
  omega
theorem i_sub (x y : Int32) : ∃ k : Int, x.toInt - y.toInt = (x - y).toInt + 4294967296 * k ∧ -2147483648 ≤ (x - y).toInt ∧ (x - y).toInt ≤ 2147483647 := by
  refine ⟨(x.toInt - y.toInt - (x - y).toInt) / 4294967296, ?_, i_bd _⟩
  have h : (x - y).toInt = (x.toInt - y.toInt).bmod (2 ^ 32) := Int32.toInt_sub x y
  have := Int.bmod_def (x.toInt - y.toInt) (2 ^ 32)
  split at this <;> omega
theorem i_add (x y : Int32) : ∃ k : Int, x.toInt + y.toInt = (x + y).toInt + 4294967296 * k ∧ -2147483648 ≤ (x + y).toInt ∧ (x + y).toInt ≤ 2147483647 := by
  refine ⟨(x.toInt + y.toInt - (x + y).toInt) / 4294967296, ?_, i_bd _⟩
  have h : (x + y).toInt = (x.toInt + y.toInt).bmod (2 ^ 32) := Int32.toInt_add x y
  have := Int.bmod_def (x.toInt + y.toInt) (2 ^ 32)
  split at this <;> omega
theorem i_mul (x y : Int32) : ∃ k : Int, x.toInt * y.toInt = (x * y).toInt + 4294967296 * k ∧ -2147483648 ≤ (x * y).toInt ∧ (x * y).toInt ≤ 2147483647 := by
  refine ⟨(x.toInt * y.toInt - (x * y).toInt) / 4294967296, ?_, i_bd _⟩
  have h : (x * y).toInt = (x.toInt * y.toInt).bmod (2 ^ 32) := Int32.toInt_mul x y
  have := Int.bmod_def (x.toInt * y.toInt) (2 ^ 32)
  generalize x.toInt * y.toInt = p at *
  split at this <;> omega
theorem i_nI {u : Nat} (h : u < 2147483648) : (nI u).toInt = u := by
  have h1 := z_b_nI u
  have h2 := i_b (nI u)
  unfold z_bu at h1
  omega
theorem i_m9 : (nI 4294967287).toInt = -9 := by decide
theorem i_m1 : (nI 4294967295).toInt = -1 := by decide
theorem i_c {x : Int32} (h : x.toNatClampNeg + 2147483648 = z_b x) : 0 ≤ x.toInt ∧ (x.toNatClampNeg : Int) = x.toInt := by
  have e := i_b x
  omega
theorem i_cc {x : Int32} (h : 0 ≤ x.toInt) : x.toNatClampNeg + 2147483648 = z_b x ∧ (x.toNatClampNeg : Int) = x.toInt := by
  have e := i_b x
  have h2 : (x.toNatClampNeg : Int) = x.toInt := by
    show ((x.toInt.toNat : Nat) : Int) = x.toInt
    omega
  omega
theorem i_d3 {v : Int32} (h1 : 0 ≤ v.toInt) (h2 : v.toInt ≤ 71) : (y_op 5 v (nI 3)).toInt = v.toInt / 3 ∧ (y_op 4 v (nI 3)).toInt = v.toInt % 3 := by
  have key : ∀ k : Nat, k < 72 → (y_op 5 (nI k) (nI 3)).toInt = (k : Int) / 3 ∧ (y_op 4 (nI k) (nI 3)).toInt = (k : Int) % 3 := by decide
  have e : v = nI v.toInt.toNat := Int32.toInt_inj.mp (by rw [i_nI (by omega)]; omega)
  have := key v.toInt.toNat (by omega)
  rw [← e] at this
  rw [this.1, this.2]
  omega
theorem i_0 : (nI 0).toInt = 0 := by decide
theorem i_sub0 {x : Int32} : (x - nI 0) = x := by
  rw [y_nI0]
  grind
-- what the layout says
def PB (V : yVw) (rp : Nat) : Prop := ∀ s : Nat, s < 24 → 0 ≤ (V.1 rp s).toInt ∧ (V.1 rp s).toInt ≤ 1
def PJ (V : yVw) (rj rp fs : Nat) : Prop := (0 ≤ (V.2 cM fs).toInt ∧ (V.2 cM fs).toInt ≤ 24) ∧ ∀ i : Nat, (i : Int) < 3 * (V.2 cM fs).toInt → (V.1 rj i).toInt = -9 ∨ (0 ≤ (V.1 rj i).toInt ∧ (V.1 rj i).toInt < 3 * (V.2 cM fs).toInt ∧ (V.1 rj i).toInt % 3 ≤ 1 + (V.1 rp ((V.1 rj i).toInt / 3).toNat).toInt)
theorem i_good {V : yVw} {rp : Nat} {S v : Int32} (hB : PB V rp) (hS : 0 ≤ S.toInt ∧ S.toInt ≤ 24) (h0 : 0 ≤ v.toInt) (h1 : v.toInt < 3 * S.toInt) (h2 : v.toInt % 3 ≤ 1 + (V.1 rp (v.toInt / 3).toNat).toInt) : y_in [(2147483648, 2147483719)] (z_b v) ∧ y_in [(2147483648, 2147483671)] (z_b (y_op 5 v (nI 3))) ∧ y_in [(2147483648, 2147483650)] (z_b (y_op 4 v (nI 3))) ∧ (y_op 5 v (nI 3)).toNatClampNeg + 2147483648 = z_b (y_op 5 v (nI 3)) ∧ y_in [(2147483648, 2147483649)] (z_b (V.1 rp (y_op 5 v (nI 3)).toNatClampNeg)) ∧ y_in [(2147483647, 2147483649)] (z_b (y_op 1 (V.1 rp (y_op 5 v (nI 3)).toNatClampNeg) (y_op 4 v (nI 3)))) ∧ y_in [(2147483624, 2147483647)] (z_b (y_op 1 (y_op 5 v (nI 3)) S)) := by
  obtain ⟨d1, d2⟩ := i_d3 h0 (by omega)
  generalize y_op 5 v (nI 3) = q at *
  generalize y_op 4 v (nI 3) = r at *
  obtain ⟨c1, c2⟩ := i_cc (x := q) (by omega)
  have e : (v.toInt / 3).toNat = q.toNatClampNeg := by omega
  rw [e] at h2
  have hb := hB q.toNatClampNeg (by omega)
  generalize V.1 rp q.toNatClampNeg = p at *
  obtain ⟨k1, e1, g1⟩ := i_sub p r
  obtain ⟨k2, e2, g2⟩ := i_sub q S
  refine ⟨i_in (by omega) (by omega), i_in (by omega) (by omega), i_in (by omega) (by omega), c1, i_in (by omega) (by omega), ?_, ?_⟩
  · show y_in _ (z_b (p - r))
    generalize (p - r) = w at *
    exact i_in (by omega) (by omega)
  · show y_in _ (z_b (q - S))
    generalize (q - S) = w at *
    exact i_in (by omega) (by omega)
theorem i_op1 (x : Int32) : y_op 1 x (nI 0) = x := i_sub0
/-- thrice a section, and an end -/
theorem i_3s {s k : Int32} (h1 : y_in [(2147483648, 2147483671)] (z_b s)) (h3 : y_in [(2147483648, 2147483650)] (z_b k)) : (nI 3 * s + k).toInt = 3 * s.toInt + k.toInt ∧ (nI 3 * s).toInt = 3 * s.toInt := by
  have b1 := i_1 h1
  have b3 := i_1 h3
  obtain ⟨k1, e1, g1⟩ := i_mul (nI 3) s
  rw [i_nI (by decide)] at e1
  obtain ⟨k2, e2, g2⟩ := i_add (nI 3 * s) k
  have q1 := i_b (nI 3 * s)
  have q2 := i_b (nI 3 * s + k)
  have q3 := y_b_lt (nI 3 * s)
  have q4 := y_b_lt (nI 3 * s + k)
  constructor <;> omega
theorem i_lt {s S : Int32} {n : Nat} (hn : n ≤ 1000) (h1 : 0 ≤ s.toInt ∧ s.toInt ≤ 1000) (h2 : y_in [(2147483648 - n, 2147483647)] (z_b (s - S))) : s.toInt < S.toInt := by
  have b := i_1 h2
  obtain ⟨k, e, g⟩ := i_sub s S
  have := i_bd S
  have q1 := i_b S
  have q2 := y_b_lt S
  generalize (s - S) = w at *
  omega
theorem lw_L1_ok : y_LwV (fun V => PB V rISP ∧ PJ V rJO rISP fSec) 2 lw_L1 := by
  rintro V lv gs gs' hm ⟨hB, hS, hJ⟩ hA
  match gs, hm, hA with
  | [s, k], _, hA =>
    simp only [lw_L1, y_AVr, y_AV, y_pV, y_op, Nat.reduceMod, i_sub0, List.cons_append, List.nil_append, List.getElem?_cons_zero, List.getElem?_cons_succ, Option.some.injEq, exists_eq_left', exists_eq_left, exists_and_left, and_true] at hA
    obtain ⟨h1, h2, h3, h4, h5, h6, h7, rfl⟩ := hA
    simp only [lw_L1, List.mem_cons, List.not_mem_nil, or_false, exists_eq_or_imp, y_AV, y_pV, i_sub0, List.cons_append, List.nil_append, List.getElem?_cons_zero, List.getElem?_cons_succ, Option.some.injEq, exists_eq_left', exists_eq_left, exists_and_left, and_true]
    have b1 := i_1 h1
    have b3 := i_1 h3
    have b2 := i_lt (n := 24) (by omega) (by omega) h2
    obtain ⟨e1, e2⟩ := i_3s h1 h3
    obtain ⟨c1, c2⟩ := i_c h6
    have hj := hJ (nI 3 * s + k).toNatClampNeg (by rw [c2, e1]; dsimp only [cM, fSec]; omega)
    dsimp only [cM, fSec, rJO] at hj
    generalize V.1 128 (nI 3 * s + k).toNatClampNeg = v at *
    rcases hj with hj | ⟨j1, j2, j3⟩
    · left
      show y_in _ (z_b (v - nI 4294967287))
      have := i_m9
      obtain ⟨k1, f1, g1⟩ := i_sub v (nI 4294967287)
      generalize (v - nI 4294967287) = w at *
      exact i_in (by omega) (by omega)
    · right
      rw [i_op1]
      exact i_good hB hS j1 j2 j3
def PS2 (V : yVw) : Prop := ∀ k : Nat, (k : Int) < (V.2 cM fSig).toInt → (0 ≤ (V.1 rSS k).toInt ∧ (V.1 rSS k).toInt < (V.2 cM fSec).toInt) ∧ (0 ≤ (V.1 rSE k).toInt ∧ (V.1 rSE k).toInt ≤ 1) ∧ 0 ≤ (V.1 rJO (3 * (V.1 rSS k).toInt + (V.1 rSE k).toInt).toNat).toInt
def PS3 (V : yVw) : Prop := ∀ s : Nat, (s : Int) < (V.2 cM fSec).toInt → ∀ e : Nat, e ≤ 1 → (V.1 rISP s).toInt = 0 → (V.1 rSA (2 * s + e)).toInt ≠ -9 → 0 ≤ (V.1 rJO (3 * s + e)).toInt
def PW (V : yVw) : Prop := (0 ≤ (V.2 cM fWM).toInt ∧ (V.2 cM fWM).toInt ≤ 8) ∧ ∀ k : Nat, (k : Int) < (V.2 cM fWM).toInt → (0 ≤ (V.1 rWI k).toInt ∧ (V.1 rWI k).toInt ≤ 2) ∧ (0 ≤ (V.1 rWO k).toInt ∧ (V.1 rWO k).toInt ≤ 2) ∧ ((V.1 rWI k).toInt = 0 ∨ (V.1 rWO k).toInt = 0) ∧ 1 ≤ (V.1 rWI k).toInt + (V.1 rWO k).toInt
def PL (V : yVw) : Prop := (PB V rISP ∧ PJ V rJO rISP fSec) ∧ PS2 V ∧ PS3 V ∧ PW V
theorem i_cl {x : Int32} {k : Nat} (h : x.toInt = k) : x.toNatClampNeg = k := by
  have := (i_cc (x := x) (by omega)).2
  omega
theorem i_eq0 {x : Int32} {a : Nat} (ha : a < 2147483648) (h : x.toInt = a) : y_in [(2147483648, 2147483648)] (z_b (y_op 1 x (nI a))) := by
  show y_in _ (z_b (x - nI a))
  have := i_nI ha
  obtain ⟨k1, f1, g1⟩ := i_sub x (nI a)
  generalize (x - nI a) = w at *
  exact i_in (by omega) (by omega)
theorem i_bel {s S : Int32} {n : Nat} (hn : n ≤ 1000) (h1 : 0 ≤ s.toInt) (h2 : s.toInt < S.toInt) (h3 : S.toInt ≤ n) : y_in [(2147483648 - n, 2147483647)] (z_b (y_op 1 s S)) := by
  show y_in _ (z_b (s - S))
  obtain ⟨k1, f1, g1⟩ := i_sub s S
  generalize (s - S) = w at *
  exact i_in (by omega) (by omega)
theorem lw_L2_ok : y_LwV PL 1 lw_L2 := by
  rintro V lv gs gs' hm ⟨⟨hB, hS, hJ⟩, hS2, -, -⟩ hA
  match gs, hm, hA with
  | [k], _, hA =>
    simp only [lw_L2, y_AVr, y_AV, y_pV, y_op, Nat.reduceMod, i_sub0, List.cons_append, List.nil_append, List.getElem?_cons_zero, List.getElem?_cons_succ, Option.some.injEq, exists_eq_left', exists_eq_left, exists_and_left, and_true] at hA
    obtain ⟨h1, h2, h3, h4, h5, h6, h7, h8, h9, h10, rfl⟩ := hA
    simp only [lw_L2, List.mem_cons, List.not_mem_nil, or_false, exists_eq_or_imp, y_AV, y_pV, i_sub0, List.cons_append, List.nil_append, List.getElem?_cons_zero, List.getElem?_cons_succ, Option.some.injEq, exists_eq_left', exists_eq_left, exists_and_left, and_true]
    have b1 := i_1 h1
    have b2 := i_lt (n := 16) (by omega) (by omega) h2
    obtain ⟨c1, c2⟩ := i_c h3
    have hk := hS2 k.toNatClampNeg (by rw [c2]; exact b2)
    dsimp only [PS2, cM, fSec, fSig, rJO, rSS, rSE] at hk hS
    generalize V.1 130 k.toNatClampNeg = s at *
    generalize V.1 131 k.toNatClampNeg = e at *
    obtain ⟨k1, k2, k3⟩ := hk
    obtain ⟨e1, e2⟩ := i_3s (s := s) (k := e) (i_in (by omega) (by omega)) (i_in (by omega) (by omega))
    obtain ⟨c3, c4⟩ := i_c h9
    rw [show (3 * s.toInt + e.toInt).toNat = (nI 3 * s + e).toNatClampNeg by omega] at k3
    generalize V.1 128 (nI 3 * s + e).toNatClampNeg = v at *
    rcases i_2 h10 with q | q
    · omega
    · rw [i_op1]
      exact ⟨i_in (by omega) (by omega), i_bel (n := 24) (by omega) (by omega) k1.2 hS.2⟩
theorem i_2s {s k : Int32} (h1 : 0 ≤ s.toInt ∧ s.toInt ≤ 1000) (h3 : 0 ≤ k.toInt ∧ k.toInt ≤ 1000) : (nI 2 * s + k).toInt = 2 * s.toInt + k.toInt ∧ (nI 2 * s).toInt = 2 * s.toInt := by
  obtain ⟨k1, e1, g1⟩ := i_mul (nI 2) s
  rw [i_nI (by decide)] at e1
  obtain ⟨k2, e2, g2⟩ := i_add (nI 2 * s) k
  constructor <;> omega
theorem i_64 {s k : Int32} (h1 : 0 ≤ s.toInt ∧ s.toInt ≤ 1000) (h3 : 0 ≤ k.toInt ∧ k.toInt ≤ 1000) : (nI 64 * s + k).toInt = 64 * s.toInt + k.toInt ∧ (nI 64 * s).toInt = 64 * s.toInt := by
  obtain ⟨k1, e1, g1⟩ := i_mul (nI 64) s
  rw [i_nI (by decide)] at e1
  obtain ⟨k2, e2, g2⟩ := i_add (nI 64 * s) k
  constructor <;> omega
theorem lw_L3_ok : y_LwV PL 2 lw_L3 := by
  rintro V lv gs gs' hm ⟨⟨hB, hS, hJ⟩, -, hS3, -⟩ hA
  match gs, hm, hA with
  | [s, e], _, hA =>
    simp only [lw_L3, y_AVr, y_AV, y_pV, y_op, Nat.reduceMod, i_sub0, List.cons_append, List.nil_append, List.getElem?_cons_zero, List.getElem?_cons_succ, Option.some.injEq, exists_eq_left', exists_eq_left, exists_and_left, and_true] at hA
    obtain ⟨h1, h2, h3, h4, h5, h6, h7, h8, h9, h10, h11, h12, h13, rfl⟩ := hA
    simp only [lw_L3, List.mem_cons, List.not_mem_nil, or_false, exists_eq_or_imp, y_AV, y_pV, i_sub0, List.cons_append, List.nil_append, List.getElem?_cons_zero, List.getElem?_cons_succ, Option.some.injEq, exists_eq_left', exists_eq_left, exists_and_left, and_true]
    have b1 := i_1 h1
    have b2 := i_lt (n := 24) (by omega) (by omega) h2
    have b3 := i_1 h3
    have b5 := i_1 h5
    obtain ⟨c1, c2⟩ := i_c h4
    obtain ⟨c3, c4⟩ := i_c h8
    obtain ⟨c5, c6⟩ := i_c h12
    have e2 := (i_2s (s := s) (k := e) (by omega) (by omega)).1
    have e3 := (i_3s (s := s) (k := e) (i_in (by omega) (by omega)) (i_in (by omega) (by omega))).1
    have hk := hS3 s.toNatClampNeg (by rw [c2]; exact b2) e.toInt.toNat (by omega) (by dsimp only [rISP]; omega)
    rw [show 2 * s.toNatClampNeg + e.toInt.toNat = (nI 2 * s + e).toNatClampNeg by omega, show 3 * s.toNatClampNeg + e.toInt.toNat = (nI 3 * s + e).toNatClampNeg by omega] at hk
    dsimp only [rSA, rJO] at hk
    generalize V.1 129 (nI 2 * s + e).toNatClampNeg = w at *
    generalize V.1 128 (nI 3 * s + e).toNatClampNeg = v at *
    by_cases hw : w.toInt = -9
    · left
      show y_in _ (z_b (w - nI 4294967287))
      have := i_m9
      obtain ⟨k1, f1, g1⟩ := i_sub w (nI 4294967287)
      generalize (w - nI 4294967287) = z at *
      exact i_in (by omega) (by omega)
    · right
      have := hk hw
      rw [i_op1]
      rcases i_2 h13 with q | q
      · omega
      · exact i_in (by omega) (by omega)
theorem lw_W_ok : y_LwV PL 1 lw_W := by
  rintro V lv gs gs' hm ⟨-, -, -, hM, hW⟩ hA
  match gs, hm, hA with
  | [k], _, hA =>
    simp only [lw_W, y_AVr, y_AV, y_pV, y_op, Nat.reduceMod, i_sub0, List.cons_append, List.nil_append, List.getElem?_cons_zero, List.getElem?_cons_succ, Option.some.injEq, exists_eq_left', exists_eq_left, exists_and_left, and_true] at hA
    obtain ⟨h1, h2, h3, h4, -, h5, rfl⟩ := hA
    simp only [lw_W, List.mem_cons, List.not_mem_nil, or_false, exists_eq_or_imp, y_AV, y_pV, i_sub0, List.cons_append, List.nil_append, List.getElem?_cons_zero, List.getElem?_cons_succ, Option.some.injEq, exists_eq_left', exists_eq_left, exists_and_left, and_true]
    have b1 := i_1 h1
    have b2 := i_lt (n := 8) (by omega) (by omega) h2
    obtain ⟨c1, c2⟩ := i_c h3
    have hk := hW k.toNatClampNeg (by rw [c2]; exact b2)
    dsimp only [rWI, rWO] at hk
    generalize V.1 142 k.toNatClampNeg = x at *
    generalize V.1 143 k.toNatClampNeg = y at *
    by_cases h0 : x.toInt = 0
    · by_cases h1 : y.toInt = 1
      · exact Or.inl ⟨i_eq0 (by decide) h0, i_eq0 (by decide) h1⟩
      · exact Or.inr (Or.inl ⟨i_eq0 (by decide) h0, i_eq0 (by decide) (by omega)⟩)
    · by_cases h1 : x.toInt = 1
      · exact Or.inr (Or.inr (Or.inl ⟨i_eq0 (by decide) h1, i_eq0 (by decide) (by omega)⟩))
      · exact Or.inr (Or.inr (Or.inr ⟨i_eq0 (by decide) (by omega), i_eq0 (by decide) (by omega)⟩))
-- trains
def PT1 (V : yVw) : Prop := (0 ≤ (V.2 cM fTrn).toInt ∧ (V.2 cM fTrn).toInt ≤ 200) ∧ ∀ t : Nat, (t : Int) < (V.2 cM fTrn).toInt → ((V.1 rTP t).toInt = -1 ∨ ((0 ≤ (V.1 rTP t).toInt ∧ (V.1 rTP t).toInt ≤ 7) ∧ (V.1 rPT (V.1 rTP t).toInt.toNat).toInt = 1 ∧ 1 ≤ (V.1 rPM (V.1 rTP t).toInt.toNat).toInt ∧ (V.1 rPM (V.1 rTP t).toInt.toNat).toInt ≤ 64)) ∧ 1 ≤ (V.1 rTB t).toInt ∧ (V.1 rTB t).toInt ≤ 5
def PT2 (V : yVw) : Prop := ∀ p : Nat, p < 8 → (V.1 rPT p).toInt = 1 → ∀ k : Nat, k < 64 → (k : Int) < (V.1 rPM p).toInt → (0 ≤ (V.1 rPS (64 * p + k)).toInt ∧ (V.1 rPS (64 * p + k)).toInt < (V.2 cM fSec).toInt) ∧ 0 ≤ (V.1 rPO (64 * p + k)).toInt ∧ (V.1 rPO (64 * p + k)).toInt ≤ 1 + (V.1 rISP (V.1 rPS (64 * p + k)).toInt.toNat).toInt
def PT3 (V : yVw) : Prop := ∀ t u : Nat, (t : Int) < (V.2 cM fTrn).toInt → (u : Int) < (V.2 cM fTrn).toInt → t ≠ u → 0 ≤ (V.1 rTP t).toInt → (V.1 rTP t).toInt ≠ (V.1 rTP u).toInt
def PT4 (V : yVw) : Prop := (∀ p : Nat, p < 8 → (V.1 rPT p).toInt = 0 ∨ (V.1 rPT p).toInt = 1) ∧ (V.1 rPT 0).toInt + (V.1 rPT 1).toInt + (V.1 rPT 2).toInt + (V.1 rPT 3).toInt + (V.1 rPT 4).toInt + (V.1 rPT 5).toInt + (V.1 rPT 6).toInt + (V.1 rPT 7).toInt = (V.2 cM fIY).toInt
def PT (V : yVw) : Prop := (PB V rISP ∧ PJ V rJO rISP fSec) ∧ PT1 V ∧ PT2 V ∧ PT3 V ∧ PT4 V
theorem i_1s {a : Nat} {x : Int32} (h : y_in [(a, a)] (z_b x)) : x.toInt = (a : Int) - 2147483648 := by
  have := i_1 h
  omega
theorem lw_T1_ok : y_LwV PT 1 lw_T1 := by
  rintro V lv gs gs' hm ⟨-, ⟨hN, hT⟩, -, -, -⟩ hA
  match gs, hm, hA with
  | [t], _, hA =>
    simp only [lw_T1, y_AVr, y_AV, y_pV, y_op, Nat.reduceMod, i_sub0, List.cons_append, List.nil_append, List.getElem?_cons_zero, List.getElem?_cons_succ, Option.some.injEq, exists_eq_left', exists_eq_left, exists_and_left, and_true] at hA
    obtain ⟨h1, h2, h3, h4, rfl⟩ := hA
    simp only [lw_T1, List.mem_cons, List.not_mem_nil, or_false, exists_eq_or_imp, y_AV, y_pV, i_sub0, List.cons_append, List.nil_append, List.getElem?_cons_zero, List.getElem?_cons_succ, Option.some.injEq, exists_eq_left', exists_eq_left, exists_and_left, and_true]
    have b1 := i_1 h1
    have b2 := i_lt (n := 200) (by omega) (by omega) h2
    obtain ⟨c1, c2⟩ := i_c h3
    have hk := hT t.toNatClampNeg (by rw [c2]; exact b2)
    dsimp only [rTP, rPT, rPM] at hk
    generalize V.1 175 t.toNatClampNeg = p at *
    have b4 := i_1 h4
    rcases hk.1 with q | ⟨q1, q2, q3⟩
    · omega
    · have e := i_cl (x := p) (k := p.toInt.toNat) (by omega)
      rw [← e] at q2 q3
      exact ⟨(i_cc q1.1).1, i_in (by omega) (by omega), (i_cc q1.1).1, i_in (by omega) (by omega)⟩
theorem lw_T3_ok : y_LwV PT 1 lw_T3 := by
  rintro V lv gs gs' hm ⟨-, ⟨hN, hT⟩, -, -, -⟩ hA
  match gs, hm, hA with
  | [t], _, hA =>
    simp only [lw_T3, y_AVr, y_AV, y_pV, y_op, Nat.reduceMod, i_sub0, List.cons_append, List.nil_append, List.getElem?_cons_zero, List.getElem?_cons_succ, Option.some.injEq, exists_eq_left', exists_eq_left, exists_and_left, and_true] at hA
    obtain ⟨h1, h2, h3, h4, rfl⟩ := hA
    simp only [lw_T3, List.mem_cons, List.not_mem_nil, or_false, exists_eq_or_imp, y_AV, y_pV, i_sub0, List.cons_append, List.nil_append, List.getElem?_cons_zero, List.getElem?_cons_succ, Option.some.injEq, exists_eq_left', exists_eq_left, exists_and_left, and_true]
    have b1 := i_1 h1
    have b2 := i_lt (n := 200) (by omega) (by omega) h2
    obtain ⟨c1, c2⟩ := i_c h3
    have hk := hT t.toNatClampNeg (by rw [c2]; exact b2)
    dsimp only [rTB] at hk
    rw [i_op1]
    exact i_in (by omega) (by omega)
theorem lw_LT_ok : y_LwV PT 1 lw_LT := by
  rintro V lv gs gs' hm ⟨⟨hB, hS, hJ⟩, ⟨hN, hT⟩, hP, -, -⟩ hA
  match gs, hm, hA with
  | [t], _, hA =>
    simp only [lw_LT, y_AVr, y_AV, y_pV, y_op, Nat.reduceMod, i_sub0, List.cons_append, List.nil_append, List.getElem?_cons_zero, List.getElem?_cons_succ, Option.some.injEq, exists_eq_left', exists_eq_left, exists_and_left, and_true] at hA
    obtain ⟨h1, h2, h3, h4, h5, h6, -, h7, h8, h9, h10, h11, h12, -, h13, rfl⟩ := hA
    simp only [lw_LT, List.mem_cons, List.not_mem_nil, or_false, exists_eq_or_imp, y_AV, y_pV, i_sub0, List.cons_append, List.nil_append, List.getElem?_cons_zero, List.getElem?_cons_succ, Option.some.injEq, exists_eq_left', exists_eq_left, exists_and_left, and_true]
    generalize V.1 175 t.toNatClampNeg = p at *
    have b4 := i_1 h4
    have b6 := i_1 h6
    have b7 := i_1s h7
    obtain ⟨c5, c6⟩ := i_c h5
    have hk := hP p.toNatClampNeg (by omega) (by dsimp only [rPT]; omega) ((V.1 185 p.toNatClampNeg).toInt - 1).toNat (by omega) (by dsimp only [rPM]; omega)
    generalize V.1 185 p.toNatClampNeg = m at *
    obtain ⟨e1, e2⟩ := i_64 (s := p) (k := m) (by omega) (by omega)
    obtain ⟨k3, e3, g3⟩ := i_sub (nI 64 * p + m) (nI 1)
    rw [i_nI (by decide)] at e3
    generalize (nI 64 * p + m - nI 1) = c at *
    obtain ⟨c11, c12⟩ := i_c h11
    rw [show 64 * p.toNatClampNeg + (m.toInt - 1).toNat = c.toNatClampNeg by omega] at hk
    dsimp only [rPS, rPO, rISP, cM, fSec] at hk hS
    generalize V.1 186 c.toNatClampNeg = s at *
    generalize V.1 187 c.toNatClampNeg = o at *
    obtain ⟨⟨k1, k2⟩, k3, k4⟩ := hk
    have e := i_cl (x := s) (k := s.toInt.toNat) (by omega)
    rw [← e] at k4
    have hb := hB s.toNatClampNeg (by omega)
    dsimp only [rISP] at hb
    refine ⟨i_bel (n := 24) (by omega) k1 k2 hS.2, (i_cc k1).1, i_in (by omega) (by omega), ?_⟩
    generalize V.1 124 s.toNatClampNeg = q at *
    show y_in _ (z_b (q - o))
    obtain ⟨k5, e5, g5⟩ := i_sub q o
    have b13 := i_1 h13
    generalize (q - o) = w at *
    exact i_in (by omega) (by omega)
theorem i_cn {u : Nat} (h : u < 2147483648) : (nI u).toNatClampNeg = u := (y_nIc h).1
theorem lw_C_ok : y_LwV PT 0 lw_C := by
  rintro V lv gs gs' hm ⟨-, -, -, -, hP, hC⟩ hA
  match gs, hm, hA with
  | [], _, hA =>
    simp only [lw_C, y_AVr, y_AV, y_pV, y_op, Nat.reduceMod, i_sub0, List.cons_append, List.nil_append, List.getElem?_cons_zero, List.getElem?_cons_succ, Option.some.injEq, exists_eq_left', exists_eq_left, exists_and_left, and_true] at hA
    obtain ⟨h1, -, h2, -, h3, -, h4, -, h5, -, h6, -, h7, -, h8, -, h9, rfl⟩ := hA
    simp only [lw_C, List.mem_cons, List.not_mem_nil, or_false, exists_eq_or_imp, y_AV, y_pV, i_sub0, List.cons_append, List.nil_append, List.getElem?_cons_zero, List.getElem?_cons_succ, Option.some.injEq, exists_eq_left', exists_eq_left, exists_and_left, and_true]
    simp only [i_op1, i_cn (show (0 : Nat) < 2147483648 by decide), i_cn (show (1 : Nat) < 2147483648 by decide), i_cn (show (2 : Nat) < 2147483648 by decide), i_cn (show (3 : Nat) < 2147483648 by decide), i_cn (show (4 : Nat) < 2147483648 by decide), i_cn (show (5 : Nat) < 2147483648 by decide), i_cn (show (6 : Nat) < 2147483648 by decide), i_cn (show (7 : Nat) < 2147483648 by decide)]
    have b1 := i_1 h1
    dsimp only [rPT, cM, fIY] at hP hC
    have q : ∀ p : Nat, p < 8 → (V.1 188 p).toInt = 0 → y_in [(2147483648, 2147483648)] (z_b (V.1 188 p)) := fun p _ z => i_in (by omega) (by omega)
    rcases hP 0 (by omega) with z | z0
    · exact Or.inl (q 0 (by omega) z)
    rcases hP 1 (by omega) with z | z1
    · exact Or.inr (Or.inl (q 1 (by omega) z))
    rcases hP 2 (by omega) with z | z2
    · exact Or.inr (Or.inr (Or.inl (q 2 (by omega) z)))
    rcases hP 3 (by omega) with z | z3
    · exact Or.inr (Or.inr (Or.inr (Or.inl (q 3 (by omega) z))))
    rcases hP 4 (by omega) with z | z4
    · exact Or.inr (Or.inr (Or.inr (Or.inr (Or.inl (q 4 (by omega) z)))))
    rcases hP 5 (by omega) with z | z5
    · exact Or.inr (Or.inr (Or.inr (Or.inr (Or.inr (Or.inl (q 5 (by omega) z))))))
    rcases hP 6 (by omega) with z | z6
    · exact Or.inr (Or.inr (Or.inr (Or.inr (Or.inr (Or.inr (Or.inl (q 6 (by omega) z)))))))
    rcases hP 7 (by omega) with z | z7
    · exact Or.inr (Or.inr (Or.inr (Or.inr (Or.inr (Or.inr (Or.inr (q 7 (by omega) z)))))))
    omega
theorem i_pl {f : Nat → Int} (hP : ∀ p : Nat, p < 8 → f p = 0 ∨ f p = 1) {p : Nat} (hp : p < 8) (h1 : f p = 1) : 1 ≤ f 0 + f 1 + f 2 + f 3 + f 4 + f 5 + f 6 + f 7 ∧ f 0 + f 1 + f 2 + f 3 + f 4 + f 5 + f 6 + f 7 ≤ 8 := by
  have h0 := hP 0 (by omega)
  have h1' := hP 1 (by omega)
  have h2 := hP 2 (by omega)
  have h3 := hP 3 (by omega)
  have h4 := hP 4 (by omega)
  have h5 := hP 5 (by omega)
  have h6 := hP 6 (by omega)
  have h7 := hP 7 (by omega)
  match p, hp, h1 with
  | 0, _, h => omega
  | 1, _, h => omega
  | 2, _, h => omega
  | 3, _, h => omega
  | 4, _, h => omega
  | 5, _, h => omega
  | 6, _, h => omega
  | 7, _, h => omega
theorem lw_C1_ok : y_LwV PT 1 lw_C1 := by
  rintro V lv gs gs' hm ⟨-, -, -, -, hP, hC⟩ hA
  match gs, hm, hA with
  | [p], _, hA =>
    simp only [lw_C1, y_AVr, y_AV, y_pV, y_op, Nat.reduceMod, i_sub0, List.cons_append, List.nil_append, List.getElem?_cons_zero, List.getElem?_cons_succ, Option.some.injEq, exists_eq_left', exists_eq_left, exists_and_left, and_true] at hA
    obtain ⟨h1, h2, h3, rfl⟩ := hA
    simp only [lw_C1, List.mem_cons, List.not_mem_nil, or_false, exists_eq_or_imp, y_AV, y_pV, i_sub0, List.cons_append, List.nil_append, List.getElem?_cons_zero, List.getElem?_cons_succ, Option.some.injEq, exists_eq_left', exists_eq_left, exists_and_left, and_true]
    have b1 := i_1 h1
    have b3 := i_1s h3
    obtain ⟨c1, c2⟩ := i_c h2
    have := i_pl (f := fun p => (V.1 rPT p).toInt) hP (p := p.toNatClampNeg) (by omega) (by dsimp only [rPT]; omega)
    dsimp only [rPT, cM, fIY] at this hC
    rw [i_op1]
    exact i_in (by omega) (by omega)
