-- small numbers as words; bits
theorem dni_int {k : Nat} (h : k < 2147483648) : (nI k).toInt = k := by
  have h1 := z_b_int (nI k)
  have h2 := z_b_nI k
  unfold z_bu at h2
  omega
theorem dni_cl {k : Nat} (h : k < 2147483648) : (nI k).toNatClampNeg = k := by
  have h1 := dni_int h
  show (nI k).toInt.toNat = k
  omega
theorem dni_in {k : Nat} (h : k < 7) : vp_in (nI k) 7 := by
  have h1 := dni_cl (k := k) (by omega)
  have h2 := dni_int (k := k) (by omega)
  rintro (z | z)
  · have := Int32.lt_iff_toInt_lt.mp z
    have e0 : (0 : Int32).toInt = 0 := by decide
    omega
  · omega
theorem dni_add {k : Nat} (h : k < 1000) : nI k + Int32.ofInt 1 = nI (k + 1) := by
  apply Int32.toInt_inj.mp
  have e1 : (Int32.ofInt 1).toInt = 1 := by decide
  have h1 := dni_int (k := k) (by omega)
  have h2 := dni_int (k := k + 1) (by omega)
  rw [di_add (by omega) (by omega)]
  omega
theorem dni_add1 {k : Nat} (h : k < 1000) : nI k + 1 = nI (k + 1) := dni_add h
theorem dni_sub {k : Nat} (h : k < 1000) : nI (k + 1) - 1 = nI k := by
  apply Int32.toInt_inj.mp
  have e1 : (1 : Int32).toInt = 1 := by decide
  have h1 := dni_int (k := k + 1) (by omega)
  have h2 := dni_int (k := k) (by omega)
  rw [di_sub (by omega) (by omega)]
  omega
theorem dni_lt {i j : Nat} (h1 : i < 1000) (h2 : j < 1000) : nI i < nI j ↔ i < j := by
  rw [Int32.lt_iff_toInt_lt, dni_int (by omega), dni_int (by omega)]
  omega
theorem dni_le {i j : Nat} (h1 : i < 1000) (h2 : j < 1000) : nI i ≤ nI j ↔ i ≤ j := by
  rw [Int32.le_iff_toInt_le, dni_int (by omega), dni_int (by omega)]
  omega
theorem dni_inj {i j : Nat} (h1 : i < 1000) (h2 : j < 1000) (h : nI i = nI j) : i = j := by
  have := congrArg Int32.toInt h
  rw [dni_int (by omega), dni_int (by omega)] at this
  omega
/-- what bitOf answers -/
def dbt (x y : Int32) : Int32 := (x.toUInt32 >>> (y.toUInt32 &&& Int32.toUInt32 31)).toInt32 &&& 1
theorem dbt_all : ((List.range 128).all fun m => (List.range 7).all fun t => decide (nI m ||| (1 : Int32) <<< (nI t &&& 31) = nI (m ||| 2 ^ t)) && decide (m ||| 2 ^ t < 128) && decide ((dbt (nI m) (nI t) = 0) ↔ m.testBit t = false)) = true := by decide +kernel
theorem dbt_ok {m t : Nat} (hm : m < 128) (ht : t < 7) : nI m ||| (1 : Int32) <<< (nI t &&& 31) = nI (m ||| 2 ^ t) ∧ m ||| 2 ^ t < 128 ∧ (dbt (nI m) (nI t) = 0 ↔ m.testBit t = false) := by
  have h := List.all_eq_true.mp (List.all_eq_true.mp dbt_all m (List.mem_range.mpr hm)) t (List.mem_range.mpr ht)
  rw [Bool.and_eq_true, Bool.and_eq_true] at h
  exact ⟨of_decide_eq_true h.1.1, of_decide_eq_true h.1.2, of_decide_eq_true h.2⟩
/-- which trains are taken -/
def dmk (m : Nat) (ps : List Nat) : Prop := m < 128 ∧ ∀ t, t < 7 → m.testBit t = ps.contains t
theorem dmk_0 : dmk 0 [] := ⟨by decide, fun t _ => by simp⟩
theorem dmk_s {m t : Nat} {ps : List Nat} (h : dmk m ps) (ht : t < 7) : dmk (m ||| 2 ^ t) (t :: ps) := ⟨(dbt_ok h.1 ht).2.1, fun u hu => by
  rw [Nat.testBit_or, h.2 u hu, Nat.testBit_two_pow, List.contains_cons, Bool.or_comm]
  congr 1
  by_cases e : t = u
  · subst e; simp
  · have e' : ¬ u = t := fun z => e z.symm
    simp [e, e']⟩
-- an order as it stands in the rows
def dPre (R : dR) (o b : Nat → Int32) : List Nat → Prop
  | [] => True
  | t :: q => (o q.length = nI t ∧ b q.length = dbg R (t :: q)) ∧ dPre R o b q
def dBst (R : dR) (o b f : Nat → Int32) : List Nat → Prop
  | [] => True
  | t :: q => (o q.length = nI t ∧ b q.length = dbg R (t :: q) ∧ f q.length = dbg R (t :: q) + R.k t) ∧ dBst R o b f q
theorem dPre_eq {R : dR} {o b o' b' : Nat → Int32} : ∀ {q : List Nat}, (∀ j, j < q.length → o' j = o j ∧ b' j = b j) → dPre R o b q → dPre R o' b' q
  | [], _, _ => trivial
  | t :: q, h, hp => ⟨⟨by rw [(h q.length (by simp)).1]; exact hp.1.1, by rw [(h q.length (by simp)).2]; exact hp.1.2⟩, dPre_eq (fun j hj => h j (by simp; omega)) hp.2⟩
theorem dPre_get {R : dR} {o b : Nat → Int32} : ∀ {q : List Nat}, dPre R o b q → ∀ j, j < q.length → ∃ t r, q.drop (q.length - 1 - j) = t :: r ∧ r.length = j ∧ o j = nI t ∧ b j = dbg R (t :: r)
  | [], _, j, hj => absurd hj (Nat.not_lt_zero _)
  | t :: q, hp, j, hj => by
    by_cases e : j = q.length
    · subst e
      exact ⟨t, q, by simp, rfl, hp.1.1, hp.1.2⟩
    · simp only [List.length_cons] at hj
      obtain ⟨t', r, h1, h2, h3, h4⟩ := dPre_get hp.2 j (by omega)
      refine ⟨t', r, ?_, h2, h3, h4⟩
      rw [← h1]
      simp only [List.length_cons]
      rw [show q.length + 1 - 1 - j = (q.length - 1 - j) + 1 by omega, List.drop_succ_cons]
theorem dPre_mem {R : dR} {o b : Nat → Int32} {q : List Nat} (hp : dPre R o b q) (hq : ∀ t ∈ q, t < 7) {j : Nat} (hj : j < q.length) : ∃ t, t < 7 ∧ o j = nI t := by
  obtain ⟨t, r, h1, _, h3, _⟩ := dPre_get hp j hj
  exact ⟨t, hq t (List.mem_of_mem_drop (by rw [h1]; exact List.mem_cons_self)), h3⟩
/-- an order copied: as far as place k -/
theorem dBst_of {R : dR} {o b o' b' f' : Nat → Int32} : ∀ {q : List Nat}, (∀ t ∈ q, t < 7) → (∀ j t, j < q.length → t < 7 → o j = nI t → o' j = o j ∧ b' j = b j ∧ f' j = b j + R.k t) → dPre R o b q → dBst R o' b' f' q
  | [], _, _, _ => trivial
  | t :: q, hq, h, hp => by
    obtain ⟨h1, h2, h3⟩ := h q.length t (by simp) (hq t List.mem_cons_self) hp.1.1
    exact ⟨⟨by rw [h1]; exact hp.1.1, by rw [h2]; exact hp.1.2, by rw [h3, hp.1.2]⟩, dBst_of (fun t ht => hq t (List.mem_cons_of_mem _ ht)) (fun j t hj => h j t (by simp; omega)) hp.2⟩
/-- two rows that hold the same order -/
theorem dBst_fun {R : dR} {o b f o' b' f' : Nat → Int32} : ∀ {q : List Nat}, dBst R o b f q → dBst R o' b' f' q → ∀ j, j < q.length → o j = o' j ∧ b j = b' j ∧ f j = f' j
  | [], _, _, j, hj => absurd hj (Nat.not_lt_zero _)
  | t :: q, h, h', j, hj => by
    by_cases e : j = q.length
    · subst e
      exact ⟨by rw [h.1.1, h'.1.1], by rw [h.1.2.1, h'.1.2.1], by rw [h.1.2.2, h'.1.2.2]⟩
    · simp only [List.length_cons] at hj
      exact dBst_fun h.2 h'.2 j (by omega)
-- the class: its rows
def dRo (V : Nat → Nat → Int32) : dR := ⟨V 103, V 104, V 105, V 106, V 107⟩
def xLn (ad : Nat → Nat) (sz od bc : Int32) : List Value := [.int sz, .int od, .ref (ad 103), .ref (ad 104), .ref (ad 105), .ref (ad 106), .ref (ad 107), .ref (ad 108), .ref (ad 109), .ref (ad 110), .ref (ad 111), .ref (ad 112), .int bc]
def dI (ad : Nat → Nat) (cI : Nat → ClassId) (cw0 : va_W) (n : Nat) (od : Int32) (V0 V : Nat → Nat → Int32) (β : Int32 × List Nat) (cw : va_W) : Prop := (xc 102 3 103 113 ad cI cw0 V (xLn ad (nI n) od β.1) cw) ∧ (∀ q, 103 ≤ q → q < 108 → V q = V0 q) ∧ (dBst (dRo V0) (V 110) (V 111) (V 112) β.2) ∧ (∀ i, n ≤ i → V 110 i = V0 110 i ∧ V 111 i = V0 111 i ∧ V 112 i = V0 112 i)
theorem dI.c {ad : Nat → Nat} {cI : Nat → ClassId} {cw0 : va_W} {n : Nat} {od : Int32} {V0 V : Nat → Nat → Int32} {β : Int32 × List Nat} {cw : va_W} (h : dI ad cI cw0 n od V0 V β cw) : xc 102 3 103 113 ad cI cw0 V (xLn ad (nI n) od β.1) cw := h.1
theorem dI.r {ad : Nat → Nat} {cI : Nat → ClassId} {cw0 : va_W} {n : Nat} {od : Int32} {V0 V : Nat → Nat → Int32} {β : Int32 × List Nat} {cw : va_W} (h : dI ad cI cw0 n od V0 V β cw) : ∀ q, 103 ≤ q → q < 108 → V q = V0 q := h.2.1
theorem dI.k {ad : Nat → Nat} {cI : Nat → ClassId} {cw0 : va_W} {n : Nat} {od : Int32} {V0 V : Nat → Nat → Int32} {β : Int32 × List Nat} {cw : va_W} (h : dI ad cI cw0 n od V0 V β cw) : dBst (dRo V0) (V 110) (V 111) (V 112) β.2 := h.2.2.1
theorem dI.b {ad : Nat → Nat} {cI : Nat → ClassId} {cw0 : va_W} {n : Nat} {od : Int32} {V0 V : Nat → Nat → Int32} {β : Int32 × List Nat} {cw : va_W} (h : dI ad cI cw0 n od V0 V β cw) : ∀ i, n ≤ i → V 110 i = V0 110 i ∧ V 111 i = V0 111 i ∧ V 112 i = V0 112 i := h.2.2.2
def xmr (y : MethodName) (cc : ByteArray) (mL : Nat) (rt : Option FieldType) (rm : Room) (ci : Nat) : yMR := (y, cc, mL, rt, rm, ci, [])
theorem dst3 : Jvm.Cond.static Lib.Math.max.name ∈ z_G ztb ∧ Jvm.Cond.initialized "java/lang/Math" ∈ z_G ztb ∧ Jvm.Cond.code Lib.Math.max.name Lib.Math.max.code 2 (some .int) ∈ z_G ztb := ⟨yN_max, yN_i, yN_cmax⟩
