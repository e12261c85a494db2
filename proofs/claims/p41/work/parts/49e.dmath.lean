/-- the later of two -/
def dmx (x y : Int32) : Int32 := if x < y then y else x
theorem dmx_int (x y : Int32) : (dmx x y).toInt = max x.toInt y.toInt := by
  unfold dmx
  split
  · rename_i h
    have := Int32.lt_iff_toInt_lt.mp h
    omega
  · rename_i h
    have : ¬ x.toInt < y.toInt := fun q => h (Int32.lt_iff_toInt_lt.mpr q)
    omega
theorem dmx_assoc (x y z : Int32) : dmx (dmx x y) z = dmx x (dmx y z) := by
  apply Int32.toInt_inj.mp
  simp only [dmx_int]
  omega
theorem dmx_comm (x y : Int32) : dmx x y = dmx y x := by
  apply Int32.toInt_inj.mp
  simp only [dmx_int]
  omega
theorem dmx_later (x y : Int32) : (if x ≤ y then y else x) = dmx x y := by
  apply Int32.toInt_inj.mp
  rw [dmx_int]
  split
  · rename_i h
    have := Int32.le_iff_toInt_le.mp h
    omega
  · rename_i h
    have : ¬ x.toInt ≤ y.toInt := fun q => h (Int32.le_iff_toInt_le.mpr q)
    omega
theorem di_add {x y : Int32} (h1 : -2147483648 ≤ x.toInt + y.toInt) (h2 : x.toInt + y.toInt < 2147483648) : (x + y).toInt = x.toInt + y.toInt := by
  rw [Int32.toInt_add]
  exact Int.bmod_eq_of_le (by omega) (by omega)
theorem di_sub {x y : Int32} (h1 : -2147483648 ≤ x.toInt - y.toInt) (h2 : x.toInt - y.toInt < 2147483648) : (x - y).toInt = x.toInt - y.toInt := by
  rw [Int32.toInt_sub]
  exact Int.bmod_eq_of_le (by omega) (by omega)
theorem di_mul {x y : Int32} (h1 : -2147483648 ≤ x.toInt * y.toInt) (h2 : x.toInt * y.toInt < 2147483648) : (x * y).toInt = x.toInt * y.toInt := by
  rw [Int32.toInt_mul]
  exact Int.bmod_eq_of_le (by omega) (by omega)
/-- the rows: way, ready, takes, due, weight -/
abbrev dR : Type := (Nat → Int32) × (Nat → Int32) × (Nat → Int32) × (Nat → Int32) × (Nat → Int32)
abbrev dR.w (h : dR) : Nat → Int32 := h.1
abbrev dR.r (h : dR) : Nat → Int32 := h.2.1
abbrev dR.k (h : dR) : Nat → Int32 := h.2.2.1
abbrev dR.d (h : dR) : Nat → Int32 := h.2.2.2.1
abbrev dR.g (h : dR) : Nat → Int32 := h.2.2.2.2
def dB (R : dR) (i : Nat) : Prop := (0 ≤ (R.r i).toInt ∧ (R.r i).toInt ≤ 1000) ∧ (0 ≤ (R.k i).toInt ∧ (R.k i).toInt ≤ 100) ∧ (0 ≤ (R.d i).toInt ∧ (R.d i).toInt ≤ 2000) ∧ 0 ≤ (R.g i).toInt ∧ (R.g i).toInt ≤ 20
/-- when the newest of these trains begins; the newest first -/
def dbg (R : dR) : List Nat → Int32
  | [] => 0
  | [t] => R.r t
  | t :: p :: q => if R.w p = R.w t then dmx (R.r t) (dmx (dbg R (p :: q) + 3) (dbg R (p :: q) + R.k p + 3 - R.k t)) else dmx (R.r t) (dbg R (p :: q) + R.k p)
def dco (R : dR) : List Nat → Int32
  | [] => 0
  | t :: q => dco R q + R.g t * dmx (dbg R (t :: q) + R.k t - R.d t) 0
theorem dbg_in {R : dR} (hB : ∀ i, dB R i) : ∀ q : List Nat, q.length ≤ 7 → 0 ≤ (dbg R q).toInt ∧ (dbg R q).toInt ≤ 1000 + 103 * q.length
  | [], _ => by
    show 0 ≤ (0 : Int32).toInt ∧ _
    have : (0 : Int32).toInt = 0 := by decide
    rw [show dbg R [] = 0 from rfl, this]
    omega
  | [t], _ => by
    have := (hB t).1
    show 0 ≤ (R.r t).toInt ∧ (R.r t).toInt ≤ _
    omega
  | t :: p :: q, h => by
    have ih := dbg_in hB (p :: q) (by simp only [List.length_cons] at h ⊢; omega)
    have h1 := hB t
    have h2 := hB p
    obtain ⟨⟨a1, a2⟩, ⟨a3, a4⟩, _⟩ := h1
    obtain ⟨_, ⟨a5, a6⟩, _⟩ := h2
    have e3 : (3 : Int32).toInt = 3 := by decide
    simp only [List.length_cons] at ih h ⊢
    have s1 : (dbg R (p :: q) + 3).toInt = (dbg R (p :: q)).toInt + 3 := by rw [di_add] <;> omega
    have s2 : (dbg R (p :: q) + R.k p).toInt = (dbg R (p :: q)).toInt + (R.k p).toInt := by rw [di_add] <;> omega
    have s3 : (dbg R (p :: q) + R.k p + 3).toInt = (dbg R (p :: q)).toInt + (R.k p).toInt + 3 := by rw [di_add] <;> omega
    have s4 : (dbg R (p :: q) + R.k p + 3 - R.k t).toInt = (dbg R (p :: q)).toInt + (R.k p).toInt + 3 - (R.k t).toInt := by rw [di_sub] <;> omega
    show 0 ≤ (if R.w p = R.w t then dmx (R.r t) (dmx (dbg R (p :: q) + 3) (dbg R (p :: q) + R.k p + 3 - R.k t)) else dmx (R.r t) (dbg R (p :: q) + R.k p)).toInt ∧ (if R.w p = R.w t then dmx (R.r t) (dmx (dbg R (p :: q) + 3) (dbg R (p :: q) + R.k p + 3 - R.k t)) else dmx (R.r t) (dbg R (p :: q) + R.k p)).toInt ≤ _
    split <;> simp only [dmx_int] <;> omega
theorem dco_in {R : dR} (hB : ∀ i, dB R i) : ∀ q : List Nat, q.length ≤ 7 → 0 ≤ (dco R q).toInt ∧ (dco R q).toInt ≤ 40000 * q.length
  | [], _ => by
    have : (0 : Int32).toInt = 0 := by decide
    rw [show dco R [] = 0 from rfl, this]
    simp
  | t :: q, h => by
    have ih := dco_in hB q (by simp only [List.length_cons] at h; omega)
    have hb := dbg_in hB (t :: q) h
    obtain ⟨⟨a1, a2⟩, ⟨a3, a4⟩, ⟨a5, a6⟩, a7, a8⟩ := hB t
    simp only [List.length_cons] at ih h hb ⊢
    have e0 : (0 : Int32).toInt = 0 := by decide
    have s1 : (dbg R (t :: q) + R.k t).toInt = (dbg R (t :: q)).toInt + (R.k t).toInt := by rw [di_add] <;> omega
    have s2 : (dbg R (t :: q) + R.k t - R.d t).toInt = (dbg R (t :: q)).toInt + (R.k t).toInt - (R.d t).toInt := by rw [di_sub] <;> omega
    have s3 : 0 ≤ (dmx (dbg R (t :: q) + R.k t - R.d t) 0).toInt ∧ (dmx (dbg R (t :: q) + R.k t - R.d t) 0).toInt ≤ 2000 := by
      rw [dmx_int, s2, e0]
      omega
    show 0 ≤ (dco R q + R.g t * dmx (dbg R (t :: q) + R.k t - R.d t) 0).toInt ∧ (dco R q + R.g t * dmx (dbg R (t :: q) + R.k t - R.d t) 0).toInt ≤ _
    generalize dmx (dbg R (t :: q) + R.k t - R.d t) 0 = y at s3
    have s4 : 0 ≤ (R.g t).toInt * y.toInt ∧ (R.g t).toInt * y.toInt ≤ 40000 := by
      refine ⟨Int.mul_nonneg a7 s3.1, ?_⟩
      have := Int.mul_le_mul a8 s3.2 s3.1 (by omega : (0 : Int) ≤ 20)
      omega
    have s5 : (R.g t * y).toInt = (R.g t).toInt * y.toInt := di_mul (by omega) (by omega)
    have s6 : (dco R q + R.g t * y).toInt = (dco R q).toInt + (R.g t).toInt * y.toInt := by rw [di_add] <;> omega
    omega
theorem dco_le {R : dR} (hB : ∀ i, dB R i) (t : Nat) (q : List Nat) (h : q.length < 7) : (dco R q).toInt ≤ (dco R (t :: q)).toInt := by
  have ih := dco_in hB q (by omega)
  have hb := dbg_in hB (t :: q) h
  obtain ⟨⟨a1, a2⟩, ⟨a3, a4⟩, ⟨a5, a6⟩, a7, a8⟩ := hB t
  simp only [List.length_cons] at ih h hb ⊢
  have e0 : (0 : Int32).toInt = 0 := by decide
  have s1 : (dbg R (t :: q) + R.k t).toInt = (dbg R (t :: q)).toInt + (R.k t).toInt := by rw [di_add] <;> omega
  have s2 : (dbg R (t :: q) + R.k t - R.d t).toInt = (dbg R (t :: q)).toInt + (R.k t).toInt - (R.d t).toInt := by rw [di_sub] <;> omega
  have s3 : 0 ≤ (dmx (dbg R (t :: q) + R.k t - R.d t) 0).toInt ∧ (dmx (dbg R (t :: q) + R.k t - R.d t) 0).toInt ≤ 2000 := by
    rw [dmx_int, s2, e0]
    omega
  show _ ≤ (dco R q + R.g t * dmx (dbg R (t :: q) + R.k t - R.d t) 0).toInt
  generalize dmx (dbg R (t :: q) + R.k t - R.d t) 0 = y at s3
  have s4 : 0 ≤ (R.g t).toInt * y.toInt ∧ (R.g t).toInt * y.toInt ≤ 40000 := by
    refine ⟨Int.mul_nonneg a7 s3.1, ?_⟩
    have := Int.mul_le_mul a8 s3.2 s3.1 (by omega : (0 : Int) ≤ 20)
    omega
  have s5 : (R.g t * y).toInt = (R.g t).toInt * y.toInt := di_mul (by omega) (by omega)
  have s6 : (dco R q + R.g t * y).toInt = (dco R q).toInt + (R.g t).toInt * y.toInt := by rw [di_add] <;> omega
  omega
/-- all orders that begin so, by numbers; the newest first -/
def dex (n : Nat) : Nat → List Nat → List (List Nat)
  | 0, ps => [ps]
  | m + 1, ps => (List.range n).flatMap fun t => if ps.contains t then [] else dex n m (t :: ps)
def dup (R : dR) (β : Int32 × List Nat) (q : List Nat) : Int32 × List Nat := if dco R q < β.1 then (dco R q, q) else β
def dtr (R : dR) (n m : Nat) (ps : List Nat) (β : Int32 × List Nat) : Int32 × List Nat := (dex n m ps).foldl (dup R) β
theorem dex_le {R : dR} (hB : ∀ i, dB R i) (n : Nat) : ∀ (m : Nat) (ps : List Nat), ps.length + m ≤ 7 → ∀ q ∈ dex n m ps, (dco R ps).toInt ≤ (dco R q).toInt ∧ q.length = ps.length + m
  | 0, ps, _, q, hq => by
    rw [List.mem_singleton.mp hq]
    exact ⟨Int.le_refl _, rfl⟩
  | m + 1, ps, h, q, hq => by
    obtain ⟨t, _, ht⟩ := List.mem_flatMap.mp hq
    split at ht
    · cases ht
    · have ih := dex_le hB n m (t :: ps) (by simp only [List.length_cons]; omega) q ht
      have := dco_le hB t ps (by omega)
      simp only [List.length_cons] at ih
      exact ⟨by omega, by omega⟩
theorem dfold_no {R : dR} {β : Int32 × List Nat} : ∀ {l : List (List Nat)}, (∀ q ∈ l, ¬ dco R q < β.1) → l.foldl (dup R) β = β
  | [], _ => rfl
  | q :: l, h => by
    rw [List.foldl_cons]
    have : dup R β q = β := if_neg (h q List.mem_cons_self)
    rw [this]
    exact dfold_no fun q hq => h q (List.mem_cons_of_mem _ hq)
/-- what costs too much already -/
theorem dtr_no {R : dR} (hB : ∀ i, dB R i) {n m : Nat} {ps : List Nat} {β : Int32 × List Nat} (h : ps.length + m ≤ 7) (hc : ¬ dco R ps < β.1) : dtr R n m ps β = β := by
  refine dfold_no fun q hq z => hc ?_
  have := (dex_le hB n m ps h q hq).1
  have := Int32.lt_iff_toInt_lt.mp z
  exact Int32.lt_iff_toInt_lt.mpr (by omega)
theorem dtr_z (R : dR) (n : Nat) (ps : List Nat) (β : Int32 × List Nat) : dtr R n 0 ps β = dup R β ps := rfl
/-- one train after the other, from train t on -/
def dst (R : dR) (n m : Nat) (ps : List Nat) (β : Int32 × List Nat) (t : Nat) : Int32 × List Nat := if ps.contains t then β else dtr R n m (t :: ps) β
theorem dtr_s (R : dR) (n m : Nat) (ps : List Nat) (β : Int32 × List Nat) : dtr R n (m + 1) ps β = (List.range n).foldl (dst R n m ps) β := by
  show List.foldl (dup R) β ((List.range n).flatMap fun t => if ps.contains t then [] else dex n m (t :: ps)) = _
  generalize List.range n = l
  induction l generalizing β with
  | nil => rfl
  | cons t l ih =>
    rw [List.flatMap_cons, List.foldl_append, ih, List.foldl_cons]
    congr 1
    unfold dst
    split
    · rfl
    · rfl
/-- what is left from train t on -/
def dlf (R : dR) (n m : Nat) (ps : List Nat) (t : Nat) (β : Int32 × List Nat) : Int32 × List Nat := (List.range' t (n - t)).foldl (dst R n m ps) β
theorem dlf_0 (R : dR) (n m : Nat) (ps : List Nat) (β : Int32 × List Nat) : dlf R n m ps 0 β = dtr R n (m + 1) ps β := by
  rw [dtr_s, List.range_eq_range']
  rfl
theorem dlf_n (R : dR) (n m : Nat) (ps : List Nat) (β : Int32 × List Nat) {t : Nat} (h : n ≤ t) : dlf R n m ps t β = β := by
  unfold dlf
  rw [Nat.sub_eq_zero_of_le h]
  rfl
theorem dlf_s (R : dR) (n m : Nat) (ps : List Nat) (β : Int32 × List Nat) {t : Nat} (h : t < n) : dlf R n m ps t β = dlf R n m ps (t + 1) (dst R n m ps β t) := by
  unfold dlf
  rw [show n - t = (n - (t + 1)) + 1 by omega, List.range'_succ, List.foldl_cons]
