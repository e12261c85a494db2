theorem dni_dec {k : Nat} : nI k + Int32.ofInt (-1) = nI k - 1 := by
  apply Int32.toInt_inj.mp
  rw [Int32.toInt_add, Int32.toInt_sub]
  rfl
theorem lg_cmp_nL {i j : Nat} (h1 : i < 2 ^ 63) (h2 : j < 2 ^ 63) : (lg_cmp (nL i) (nL j) < 0 ↔ i < j) ∧ (0 < lg_cmp (nL i) (nL j) ↔ j < i) := by
  have e1 : nL i > nL j ↔ j < i := by
    show nL j < nL i ↔ j < i
    rw [Int64.lt_iff_toInt_lt, nL_int h1, nL_int h2]
    omega
  have e3 : nL i = nL j ↔ i = j := ⟨nL_inj h1 h2, fun h => by rw [h]⟩
  unfold lg_cmp
  by_cases h : j < i
  · rw [if_pos (e1.mpr h)]
    exact ⟨⟨fun q => absurd q (by decide), fun q => by omega⟩, ⟨fun _ => h, fun _ => by decide⟩⟩
  · rw [if_neg (fun q => h (e1.mp q))]
    by_cases hq : i = j
    · rw [if_pos (e3.mpr hq)]
      exact ⟨⟨fun q => absurd q (by decide), fun q => by omega⟩, ⟨fun q => absurd q (by decide), fun q => absurd q h⟩⟩
    · rw [if_neg (fun q => hq (e3.mp q))]
      exact ⟨⟨fun _ => by omega, fun _ => by decide⟩, ⟨fun q => absurd q (by decide), fun q => absurd q h⟩⟩
/-- one leg more in a row of legs -/
theorem nL_leg {c e : Nat} (hc : c < 2 ^ 40) (he : e < 1024) : (nL c <<< ((10 : Int32).toInt64 &&& 63)) ||| (nI e).toInt64 = nL (c * 1024 + e) := by
  apply Int64.toBitVec_inj.mp
  rw [Int64.toBitVec_or, Int64.toBitVec_shiftLeft]
  have e10 : ((10 : Int32).toInt64 &&& 63).toBitVec.smod 64 = 10#64 := by decide
  have ee : (nI e).toInt64.toBitVec = BitVec.ofNat 64 e := by
    have h1 : (nI e).toInt64 = nL e := by
      apply Int64.toInt_inj.mp
      rw [Int32.toInt_toInt64, dni_int (by omega), nL_int (by omega)]
    rw [h1]
    rfl
  rw [e10, ee]
  apply BitVec.eq_of_toNat_eq
  show (BitVec.ofNat 64 c <<< 10#64 ||| BitVec.ofNat 64 e).toNat = (BitVec.ofNat 64 (c * 1024 + e)).toNat
  rw [BitVec.toNat_or, BitVec.shiftLeft_eq', BitVec.toNat_shiftLeft, BitVec.toNat_ofNat, BitVec.toNat_ofNat, BitVec.toNat_ofNat, BitVec.toNat_ofNat]
  rw [Nat.mod_eq_of_lt (show c < 2 ^ 64 by omega), Nat.mod_eq_of_lt (show e < 2 ^ 64 by omega), Nat.mod_eq_of_lt (show c * 1024 + e < 2 ^ 64 by omega), Nat.mod_eq_of_lt (show 10 < 2 ^ 64 by decide)]
  rw [Nat.mod_eq_of_lt (by rw [Nat.shiftLeft_eq]; omega)]
  rw [← Nat.shiftLeft_add_eq_or_of_lt (show e < 2 ^ 10 from he), Nat.shiftLeft_eq]
theorem jleg_all : ((List.range 12).all fun r => (List.range 8).all fun i => (List.range 8).all fun j => decide ((nI r <<< ((6 : Int32) &&& 31)) ||| (nI i <<< ((3 : Int32) &&& 31)) ||| nI j = nI (r * 64 + i * 8 + j))) = true := by decide +kernel
theorem jleg {r i j : Nat} (hr : r < 12) (hi : i < 8) (hj : j < 8) : (nI r <<< ((6 : Int32) &&& 31)) ||| (nI i <<< ((3 : Int32) &&& 31)) ||| nI j = nI (r * 64 + i * 8 + j) := of_decide_eq_true (List.all_eq_true.mp (List.all_eq_true.mp (List.all_eq_true.mp jleg_all r (List.mem_range.mpr hr)) i (List.mem_range.mpr hi)) j (List.mem_range.mpr hj))
theorem jleg3_all : ((List.range 12).all fun r => (List.range 8).all fun i => (List.range 8).all fun j => decide (((nI r <<< ((6 : Int32) &&& 31)).toInt64 ||| (nI i <<< ((3 : Int32) &&& 31)).toInt64) ||| (nI j).toInt64 = (nI (r * 64 + i * 8 + j)).toInt64)) = true := by decide +kernel
theorem jleg3 {r i j c : Nat} (hr : r < 12) (hi : i < 8) (hj : j < 8) (hc : c < 2 ^ 40) : (((nL c <<< ((10 : Int32).toInt64 &&& 63)) ||| (nI r <<< ((6 : Int32) &&& 31)).toInt64) ||| (nI i <<< ((3 : Int32) &&& 31)).toInt64) ||| (nI j).toInt64 = nL (c * 1024 + (r * 64 + i * 8 + j)) := by
  have h := of_decide_eq_true (List.all_eq_true.mp (List.all_eq_true.mp (List.all_eq_true.mp jleg3_all r (List.mem_range.mpr hr)) i (List.mem_range.mpr hi)) j (List.mem_range.mpr hj))
  rw [← nL_leg hc (by omega), ← h]
  rw [Int64.or_assoc, Int64.or_assoc, Int64.or_assoc]
/-- places -/
theorem dni_mul {r k : Nat} (hr : r < 1000) (hk : k < 1000) : nI r * nI k = nI (r * k) := by
  apply Int32.toInt_inj.mp
  have hb : r * k ≤ 999 * 999 := Nat.mul_le_mul (by omega) (by omega)
  have e : ((r : Int) * (k : Int)) = ((r * k : Nat) : Int) := by simp
  rw [di_mul (by rw [dni_int (by omega), dni_int (by omega), e]; omega) (by rw [dni_int (by omega), dni_int (by omega), e]; omega), dni_int (by omega), dni_int (by omega), dni_int (by omega), e]
theorem dni_plus {r k : Nat} (hr : r < 1000000) (hk : k < 1000000) : nI r + nI k = nI (r + k) := by
  apply Int32.toInt_inj.mp
  have h1 := dni_int (k := r) (by omega)
  have h2 := dni_int (k := k) (by omega)
  have h3 := dni_int (k := r + k) (by omega)
  rw [di_add (by omega) (by omega)]
  omega
theorem jpl {r i : Nat} (hr : r < 100) (hi : i < 100) : nI r * 8 + nI i = nI (8 * r + i) := by
  rw [show (8 : Int32) = nI 8 by decide, dni_mul (by omega) (by omega), dni_plus (by omega) (by omega), Nat.mul_comm]
theorem jpl' {r i : Nat} (hr : r < 100) (hi : i < 100) : 8 * nI r + nI i = nI (8 * r + i) := by
  rw [show (8 : Int32) = nI 8 by decide, dni_mul (by omega) (by omega), dni_plus (by omega) (by omega)]
theorem dni_ltb {i j : Nat} (h1 : i < 2147483648) (h2 : j < 2147483648) : nI i < nI j ↔ i < j := by
  rw [Int32.lt_iff_toInt_lt, dni_int h1, dni_int h2]
  omega
theorem dni_leb {i j : Nat} (h1 : i < 2147483648) (h2 : j < 2147483648) : nI i ≤ nI j ↔ i ≤ j := by
  rw [Int32.le_iff_toInt_le, dni_int h1, dni_int h2]
  omega
theorem dni_injb {i j : Nat} (h1 : i < 2147483648) (h2 : j < 2147483648) (h : nI i = nI j) : i = j := by
  have := congrArg Int32.toInt h
  rw [dni_int h1, dni_int h2] at this
  omega
