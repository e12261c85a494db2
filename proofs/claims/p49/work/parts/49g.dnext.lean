-- the next order by numbers
def dupd (F : Nat → Nat) (i x : Nat) : Nat → Nat := fun j => cond (Nat.beq j i) x (F j)
/-- one more than the last place behind which a greater one stands -/
def dn1 (F : Nat → Nat) : Nat → Nat
  | 0 => 0
  | j + 1 => cond (Nat.blt (F (j + 1)) (F j)) (dn1 F j) (j + 1)
def dn2 (F : Nat → Nat) (x : Nat) : Nat → Nat
  | 0 => 0
  | i + 1 => cond (Nat.blt (F (i + 1)) x) (dn2 F x i) (i + 1)
def dn3 (s : Nat) : Nat → Nat → (Nat → Nat) → (Nat → Nat)
  | 0, _, F => F
  | m + 1, a, F => cond (Nat.blt (a + a) s) (dn3 s m (a + 1) (dupd (dupd F a (F (s - a))) (s - a) (F a))) F
def dnx (n : Nat) (F : Nat → Nat) : Option (Nat → Nat) :=
  match dn1 F (n - 1) with
  | 0 => none
  | k + 1 => some (dn3 (n + k) 7 (k + 1) (dupd (dupd F (dn2 F (F k) (n - 1)) (F k)) k (F (dn2 F (F k) (n - 1)))))
/-- an order, the newest first, as a row -/
def drow (q : List Nat) : Nat → Nat := fun i => q.reverse.getD i 0
def dsm (F G : Nat → Nat) : Nat → Bool
  | 0 => true
  | n + 1 => and (Nat.beq (F n) (G n)) (dsm F G n)
def dch (n : Nat) : List Nat → List (List Nat) → Bool
  | q, [] => match dnx n (drow q) with
    | none => true
    | some _ => false
  | q, q' :: l => and (match dnx n (drow q) with
    | none => false
    | some F => dsm F (drow q') n) (dch n q' l)
def dchk (n : Nat) : Bool := match dex n n [] with
  | [] => false
  | q :: l => and (dsm (drow q) id n) (dch n q l)
theorem dchk7 : dchk 7 = true := by decide +kernel
