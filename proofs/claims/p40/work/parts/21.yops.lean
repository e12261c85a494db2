-- what is computed, and its bounds
def y_op : Nat → Int32 → Int32 → Int32
  | 0, x, y => x + y
  | 1, x, y => x - y
  | 2, x, y => x * y
  | 3, x, y => x &&& y
  | 4, x, y => x - x / y * y
  | 5, x, y => x / y
  | 6, x, y => x ||| y
  | 7, x, y => x <<< (y &&& 31)
  | 8, x, y => x >>> (y &&& 31)
  | 9, x, y => (x.toUInt32 >>> (y.toUInt32 &&& Int32.toUInt32 31)).toInt32
  | 10, x, y => x ^^^ y
  | 11, x, _ => x.toInt8.toInt32
  | 12, x, _ => (x.toUInt32 % 65536).toInt32
  | _, x, _ => x
noncomputable def y_iv (a b : Nat) (k : yD → Bool) : Bool := z_frc a fun a => z_frc b fun b => k [(a, b)]
theorem y_iv_ok {a b : Nat} {k : yD → Bool} (h : y_iv a b k = true) : k [(a, b)] = true := by
  unfold y_iv at h
  rw [z_frc_eq, z_frc_eq] at h
  exact h
theorem y_in_iv {a b n : Nat} (h1 : a ≤ n) (h2 : n ≤ b) : y_in [(a, b)] n := ⟨_, List.mem_cons_self, h1, h2⟩
noncomputable def y_hull (D : yD) (k : Nat → Nat → Bool) : Bool := z_frc (y_min D) fun a => z_frc (y_max D) fun b => k a b
theorem y_hull_ok {D : yD} {k : Nat → Nat → Bool} (h : y_hull D k = true) : k (y_min D) (y_max D) = true := by
  unfold y_hull at h
  rw [z_frc_eq, z_frc_eq] at h
  exact h
noncomputable def y_dop (op : Nat) (Da Db : yD) (k : yD → Bool) : Bool := match op with
  | 0 => y_hull Da fun la ha => y_hull Db fun lb hb => cond (and (Nat.ble 2147483648 (la + lb)) (Nat.ble (ha + hb) 6442450943)) (y_iv (la + lb - 2147483648) (ha + hb - 2147483648) k) (k y_top)
  | 1 => y_hull Da fun la ha => y_hull Db fun lb hb => cond (and (Nat.ble hb (la + 2147483648)) (Nat.ble (ha + 2147483648) (lb + 4294967295))) (y_iv (la + 2147483648 - hb) (ha + 2147483648 - lb) k) (k y_top)
  | 2 => y_hull Da fun la ha => y_hull Db fun lb hb => cond (and (and (Nat.ble 2147483648 la) (Nat.ble 2147483648 lb)) (Nat.ble ((ha - 2147483648) * (hb - 2147483648)) 2147483647)) (y_iv ((la - 2147483648) * (lb - 2147483648) + 2147483648) ((ha - 2147483648) * (hb - 2147483648) + 2147483648) k) (k y_top)
  | 3 => y_hull Da fun la ha => y_hull Db fun lb hb => cond (Nat.ble 2147483648 lb) (cond (and (Nat.ble 2147483648 la) (Nat.ble ha hb)) (y_iv 2147483648 ha k) (y_iv 2147483648 hb k)) (cond (Nat.ble 2147483648 la) (y_iv 2147483648 ha k) (k y_top))
  | 4 => y_hull Da fun la ha => y_hull Db fun lb hb => cond (and (Nat.beq lb hb) (Nat.ble 2147483649 lb)) (cond (Nat.ble 2147483648 la) (cond (Nat.ble ha (lb - 1)) (y_iv la ha k) (y_iv 2147483648 (lb - 1) k)) (y_iv (4294967297 - lb) (lb - 1) k)) (k y_top)
  | 5 => y_hull Da fun la ha => y_hull Db fun lb hb => cond (and (and (Nat.beq lb hb) (Nat.ble 2147483649 lb)) (Nat.ble 2147483648 la)) (y_iv ((la - 2147483648) / (lb - 2147483648) + 2147483648) ((ha - 2147483648) / (lb - 2147483648) + 2147483648) k) (k y_top)
  | 11 => y_hull Da fun la ha => cond (and (Nat.ble 2147483520 la) (Nat.ble ha 2147483775)) (y_iv la ha k) (y_iv 2147483520 2147483775 k)
  | 12 => y_hull Da fun la ha => cond (and (Nat.ble 2147483648 la) (Nat.ble ha 2147549183)) (y_iv la ha k) (y_iv 2147483648 2147549183 k)
  | _ => k y_top
theorem y_bool {c : Bool} {A B : Bool} (h : cond c A B = true) : (c = true ∧ A = true) ∨ (c = false ∧ B = true) := by
  cases c
  · exact Or.inr ⟨rfl, h⟩
  · exact Or.inl ⟨rfl, h⟩
theorem y_nn {x : Int32} (h : 2147483648 ≤ z_b x) : x.toBitVec.toNat + 2147483648 = z_b x := by
  have h2 := x.toBitVec.isLt
  unfold z_b at h ⊢
  omega
theorem y_of_nn {x : Int32} (h : x.toBitVec.toNat < 2147483648) : z_b x = x.toBitVec.toNat + 2147483648 := by
  unfold z_b
  omega
theorem y_and_le {x y : Int32} (h : 2147483648 ≤ z_b y) : 2147483648 ≤ z_b (x &&& y) ∧ z_b (x &&& y) ≤ z_b y := by
  have h1 := y_nn h
  have h2 := y.toBitVec.isLt
  have h3 : (x &&& y).toBitVec.toNat ≤ y.toBitVec.toNat := by
    rw [Int32.toBitVec_and, BitVec.toNat_and]
    exact Nat.and_le_right
  have hb : z_b y < 4294967296 := by unfold z_b; omega
  have h4 := y_of_nn (x := x &&& y) (by omega)
  omega
theorem y_and_comm (x y : Int32) : x &&& y = y &&& x := by
  apply Int32.toBitVec_inj.mp
  rw [Int32.toBitVec_and, Int32.toBitVec_and, BitVec.and_comm]
theorem y_dop_ok {op : Nat} {Da Db : yD} {k : yD → Bool} {x y : Int32} (h : y_dop op Da Db k = true) (ha : y_in Da (z_b x)) (hb : y_in Db (z_b y)) : ∃ D, y_in D (z_b (y_op op x y)) ∧ k D = true := by
  have a1 := y_min_le ha
  have a2 := y_le_max ha
  have b1 := y_min_le hb
  have b2 := y_le_max hb
  have bx := z_b_int x
  have bY := z_b_int y
  match op, h with
  | 0, h =>
    have h := y_hull_ok (y_hull_ok h)
    rcases y_bool h with ⟨hc, h⟩ | ⟨_, h⟩
    · obtain ⟨c1, c2⟩ := z_and hc
      have c1 := z_le_of c1
      have c2 := z_le_of c2
      have e : (x + y).toInt = x.toInt + y.toInt := Jvm.Kit.i32_add (by omega) (by omega)
      have bz := z_b_int (x + y)
      exact ⟨_, y_in_iv (by show _ ≤ z_b (x + y); omega) (by show z_b (x + y) ≤ _; omega), y_iv_ok h⟩
    · exact ⟨_, y_in_top _, h⟩
  | 1, h =>
    have h := y_hull_ok (y_hull_ok h)
    rcases y_bool h with ⟨hc, h⟩ | ⟨_, h⟩
    · obtain ⟨c1, c2⟩ := z_and hc
      have c1 := z_le_of c1
      have c2 := z_le_of c2
      have e : (x - y).toInt = x.toInt - y.toInt := Jvm.Kit.i32_sub (by omega) (by omega)
      have bz := z_b_int (x - y)
      exact ⟨_, y_in_iv (by show _ ≤ z_b (x - y); omega) (by show z_b (x - y) ≤ _; omega), y_iv_ok h⟩
    · exact ⟨_, y_in_top _, h⟩
  | 2, h =>
    have h := y_hull_ok (y_hull_ok h)
    rcases y_bool h with ⟨hc, h⟩ | ⟨_, h⟩
    · obtain ⟨c1, c2⟩ := z_and hc
      obtain ⟨c3, c4⟩ := z_and c1
      have c2 := z_le_of c2
      have c3 := z_le_of c3
      have c4 := z_le_of c4
      have hx : x.toInt = ((z_b x - 2147483648 : Nat) : Int) := by omega
      have hy : y.toInt = ((z_b y - 2147483648 : Nat) : Int) := by omega
      have hl : (y_min Da - 2147483648) * (y_min Db - 2147483648) ≤ (z_b x - 2147483648) * (z_b y - 2147483648) := Nat.mul_le_mul (by omega) (by omega)
      have hh : (z_b x - 2147483648) * (z_b y - 2147483648) ≤ (y_max Da - 2147483648) * (y_max Db - 2147483648) := Nat.mul_le_mul (by omega) (by omega)
      have hp : x.toInt * y.toInt = (((z_b x - 2147483648) * (z_b y - 2147483648) : Nat) : Int) := by rw [hx, hy, Int.natCast_mul]
      have e : (x * y).toInt = x.toInt * y.toInt := Jvm.Kit.i32_mul (by rw [hp]; omega) (by rw [hp]; omega)
      have bz := z_b_int (x * y)
      rw [e, hp] at bz
      exact ⟨_, y_in_iv (by show _ ≤ z_b (x * y); omega) (by show z_b (x * y) ≤ _; omega), y_iv_ok h⟩
    · exact ⟨_, y_in_top _, h⟩
  | 3, h =>
    have h := y_hull_ok (y_hull_ok h)
    have hyb : 2147483648 ≤ y_min Db → 2147483648 ≤ z_b (x &&& y) ∧ z_b (x &&& y) ≤ z_b y := fun q => y_and_le (by omega)
    have hxb : 2147483648 ≤ y_min Da → 2147483648 ≤ z_b (x &&& y) ∧ z_b (x &&& y) ≤ z_b x := fun q => by rw [y_and_comm]; exact y_and_le (by omega)
    rcases y_bool h with ⟨hc, h⟩ | ⟨_, h⟩
    · have hc := z_le_of hc
      have q1 := hyb hc
      rcases y_bool h with ⟨hd, h⟩ | ⟨_, h⟩
      · obtain ⟨c1, c2⟩ := z_and hd
        have q2 := hxb (z_le_of c1)
        exact ⟨_, y_in_iv q2.1 (by show z_b (x &&& y) ≤ _; omega), y_iv_ok h⟩
      · exact ⟨_, y_in_iv q1.1 (by show z_b (x &&& y) ≤ _; omega), y_iv_ok h⟩
    · rcases y_bool h with ⟨hd, h⟩ | ⟨_, h⟩
      · have q2 := hxb (z_le_of hd)
        exact ⟨_, y_in_iv q2.1 (by show z_b (x &&& y) ≤ _; omega), y_iv_ok h⟩
      · exact ⟨_, y_in_top _, h⟩
  | 4, h =>
    have h := y_hull_ok (y_hull_ok h)
    rcases y_bool h with ⟨hc, h⟩ | ⟨_, h⟩
    · obtain ⟨c1, c2⟩ := z_and hc
      have c1 := Nat.eq_of_beq_eq_true c1
      have c2 := z_le_of c2
      have e := rem_toInt x y
      have bz := z_b_int (x - x / y * y)
      have hyy : (z_b y : Int) = y_min Db := by omega
      have t := tmod_bounds (a := x.toInt) (M := y.toInt) (by omega)
      rcases y_bool h with ⟨hd, h⟩ | ⟨_, h⟩
      · have hd := z_le_of hd
        have hx0 : 0 ≤ x.toInt := by omega
        have t0 : 0 ≤ x.toInt.tmod y.toInt := Int.tmod_nonneg _ hx0
        rcases y_bool h with ⟨hd2, h⟩ | ⟨_, h⟩
        · have hd2 := z_le_of hd2
          have t1 : x.toInt.tmod y.toInt = x.toInt := Int.tmod_eq_of_lt hx0 (by omega)
          exact ⟨_, y_in_iv (by show _ ≤ z_b (x - x / y * y); omega) (by show z_b (x - x / y * y) ≤ _; omega), y_iv_ok h⟩
        · exact ⟨_, y_in_iv (by show _ ≤ z_b (x - x / y * y); omega) (by show z_b (x - x / y * y) ≤ _; omega), y_iv_ok h⟩
      · exact ⟨_, y_in_iv (by show _ ≤ z_b (x - x / y * y); omega) (by show z_b (x - x / y * y) ≤ _; omega), y_iv_ok h⟩
    · exact ⟨_, y_in_top _, h⟩
  | 5, h =>
    have h := y_hull_ok (y_hull_ok h)
    rcases y_bool h with ⟨hc, h⟩ | ⟨_, h⟩
    · obtain ⟨c1, c3⟩ := z_and hc
      obtain ⟨c1, c2⟩ := z_and c1
      have c1 := Nat.eq_of_beq_eq_true c1
      have c2 := z_le_of c2
      have c3 := z_le_of c3
      have hx : x.toInt = ((z_b x - 2147483648 : Nat) : Int) := by omega
      have hy : y.toInt = ((y_min Db - 2147483648 : Nat) : Int) := by omega
      have hl : (y_min Da - 2147483648) / (y_min Db - 2147483648) ≤ (z_b x - 2147483648) / (y_min Db - 2147483648) := Nat.div_le_div_right (by omega)
      have hh : (z_b x - 2147483648) / (y_min Db - 2147483648) ≤ (y_max Da - 2147483648) / (y_min Db - 2147483648) := Nat.div_le_div_right (by omega)
      have hle : (z_b x - 2147483648) / (y_min Db - 2147483648) ≤ z_b x - 2147483648 := Nat.div_le_self _ _
      have hbx : z_b x < 4294967296 := by unfold z_b; omega
      obtain ⟨q, hq⟩ : ∃ q : Nat, (z_b x - 2147483648) / (y_min Db - 2147483648) = q := ⟨_, rfl⟩
      rw [hq] at hl hh hle
      have e : (x / y).toInt = (q : Int) := by
        rw [Int32.toInt_div, hx, hy, ← Int.ofNat_tdiv, hq]
        exact Int.bmod_eq_of_le (by omega) (by omega)
      have bz := z_b_int (x / y)
      rw [e] at bz
      exact ⟨_, y_in_iv (by show _ ≤ z_b (x / y); omega) (by show z_b (x / y) ≤ _; omega), y_iv_ok h⟩
    · exact ⟨_, y_in_top _, h⟩
  | 6, h => exact ⟨_, y_in_top _, h⟩
  | 7, h => exact ⟨_, y_in_top _, h⟩
  | 8, h => exact ⟨_, y_in_top _, h⟩
  | 9, h => exact ⟨_, y_in_top _, h⟩
  | 10, h => exact ⟨_, y_in_top _, h⟩
  | 11, h =>
    have h := y_hull_ok h
    have r := lg_i2b_range x
    have bz := z_b_int x.toInt8.toInt32
    rcases y_bool h with ⟨hc, h⟩ | ⟨_, h⟩
    · obtain ⟨c1, c2⟩ := z_and hc
      have c1 := z_le_of c1
      have c2 := z_le_of c2
      have e := lg_i2b_small (v := x) (by omega) (by omega)
      exact ⟨_, y_in_iv (by show _ ≤ z_b x.toInt8.toInt32; rw [e]; exact a1) (by show z_b x.toInt8.toInt32 ≤ _; rw [e]; exact a2), y_iv_ok h⟩
    · exact ⟨_, y_in_iv (by show _ ≤ z_b x.toInt8.toInt32; omega) (by show z_b x.toInt8.toInt32 ≤ _; omega), y_iv_ok h⟩
  | 12, h =>
    have h := y_hull_ok h
    have r := z_b_nI (x.toBitVec.toNat % 65536)
    rw [← pk_char] at r
    unfold z_bu at r
    rcases y_bool h with ⟨hc, h⟩ | ⟨_, h⟩
    · obtain ⟨c1, c2⟩ := z_and hc
      have c1 := z_le_of c1
      have c2 := z_le_of c2
      have e := lg_i2c_word (v := x) (by omega) (by omega)
      exact ⟨_, y_in_iv (by show _ ≤ z_b (x.toUInt32 % 65536).toInt32; rw [e]; exact a1) (by show z_b (x.toUInt32 % 65536).toInt32 ≤ _; rw [e]; exact a2), y_iv_ok h⟩
    · exact ⟨_, y_in_iv (by show _ ≤ z_b (x.toUInt32 % 65536).toInt32; omega) (by show z_b (x.toUInt32 % 65536).toInt32 ≤ _; omega), y_iv_ok h⟩
  | n + 13, h => exact ⟨_, y_in_top _, h⟩
