-- journeys of the class: isBetter, legFare, ride
def jI : List (Nat × Nat) := [(80, 8), (81, 8), (83, 12), (84, 96), (85, 96), (86, 96), (94, 148), (95, 148), (96, 148), (98, 96), (100, 96)]
def jJ : List (Nat × Nat) := [(97, 148), (99, 96), (101, 96)]
def jOb (ad : Nat → Nat) (op : Int32) (u v : Nat) (rn ho he : Int32) : Nat → Nat × List Value
  | 93 => (1, [.ref (ad 79), .int op, .ref (ad 94), .ref (ad 95), .ref (ad 96), .ref (ad 97), .ref (ad u), .ref (ad (u + 1)), .ref (ad v), .ref (ad (v + 1))])
  | _ => (6, [.ref (ad 80), .ref (ad 81), .int rn, .ref (ad 82), .ref (ad 83), .ref (ad 84), .ref (ad 85), .ref (ad 86), .int ho, .int he, .ref (ad 87), .ref (ad 88), .ref (ad 89), .ref (ad 90), .ref (ad 91), .ref (ad 92)])
/-- the class's cells -/
abbrev jW (ad : Nat → Nat) (cI : Nat → ClassId) (op : Int32) (u v : Nat) (rn ho he : Int32) (V : Nat → Nat → Int32) (L : Nat → Nat → Int64) (cw : va_W) : Prop := xg jI jJ [79, 93] ad cI V L (jOb ad op u v rn ho he) cw
def jUV (u v : Nat) : Prop := (u = 98 ∧ v = 100) ∨ (u = 100 ∧ v = 98)
theorem jUV_ok {u v : Nat} (h : jUV u v) : ((u, 96) ∈ jI ∧ (u + 1, 96) ∈ jJ) ∧ (v, 96) ∈ jI ∧ (v + 1, 96) ∈ jJ := by
  rcases h with ⟨rfl, rfl⟩ | ⟨rfl, rfl⟩ <;> decide
/-- a timetable in rows -/
def jV (X : jT) (S st ar dp ch zn : Nat → Int32) : Prop := (X.n ≤ 12) ∧ (∀ r, r < 12 → S r = nI (X.S r) ∧ X.S r ≤ 8) ∧ (∀ p, p < 96 → st p = nI (X.st p) ∧ X.st p < 8) ∧ (∀ p, p < 96 → ar p = nI (X.ar p) ∧ X.ar p ≤ 10000) ∧ (∀ p, p < 96 → dp p = nI (X.dp p) ∧ X.dp p ≤ 10000) ∧ (∀ s, s < 8 → ch s = nI (X.ch s) ∧ X.ch s ≤ 60) ∧ (∀ s, s < 8 → zn s = nI (X.zn s) ∧ X.zn s ≤ 9)
theorem jV.n {X : jT} {S st ar dp ch zn : Nat → Int32} (h : jV X S st ar dp ch zn) : X.n ≤ 12 := h.1
theorem jV.S {X : jT} {S st ar dp ch zn : Nat → Int32} (h : jV X S st ar dp ch zn) : ∀ r, r < 12 → S r = nI (X.S r) ∧ X.S r ≤ 8 := h.2.1
theorem jV.st {X : jT} {S st ar dp ch zn : Nat → Int32} (h : jV X S st ar dp ch zn) : ∀ p, p < 96 → st p = nI (X.st p) ∧ X.st p < 8 := h.2.2.1
theorem jV.ar {X : jT} {S st ar dp ch zn : Nat → Int32} (h : jV X S st ar dp ch zn) : ∀ p, p < 96 → ar p = nI (X.ar p) ∧ X.ar p ≤ 10000 := h.2.2.2.1
theorem jV.dp {X : jT} {S st ar dp ch zn : Nat → Int32} (h : jV X S st ar dp ch zn) : ∀ p, p < 96 → dp p = nI (X.dp p) ∧ X.dp p ≤ 10000 := h.2.2.2.2.1
theorem jV.ch {X : jT} {S st ar dp ch zn : Nat → Int32} (h : jV X S st ar dp ch zn) : ∀ s, s < 8 → ch s = nI (X.ch s) ∧ X.ch s ≤ 60 := h.2.2.2.2.2.1
theorem jV.zn {X : jT} {S st ar dp ch zn : Nat → Int32} (h : jV X S st ar dp ch zn) : ∀ s, s < 8 → zn s = nI (X.zn s) ∧ X.zn s ≤ 9 := h.2.2.2.2.2.2
abbrev jVc (X : jT) (V : Nat → Nat → Int32) : Prop := jV X (V 83) (V 84) (V 85) (V 86) (V 80) (V 81)
/-- an entry in rows -/
def jr : Option jP → Int32 → Int64 → Prop
  | none, x, _ => x = 0
  | some a, x, y => x = nI a.1 ∧ y = nL a.2 ∧ 0 < a.1 ∧ a.1 < 10000 ∧ a.2 < 2 ^ 60
def jbt : Option jP → jP → Bool
  | none, _ => true
  | some b, a => decide (jlt a b)
theorem joff_bt (t : Option jP) (a : jP) : joff t a = if jbt t a = true then some a else t := by
  cases t with
  | none => rfl
  | some b =>
    show (if jlt a b then some a else some b) = _
    by_cases h : jlt a b
    · rw [if_pos h, if_pos (show jbt (some b) a = true from decide_eq_true h)]
    · rw [if_neg h, if_neg (show ¬ jbt (some b) a = true from fun q => h (of_decide_eq_true q))]
abbrev xBet : yMR := xmr ⟨"RailwayHouse$Journeys", "isBetter", "(IJIJ)Z"⟩ prog_3_method_8_code 6 (some .boolean) ⟨1, 0, 0, 60⟩ 101
abbrev xLeg : yMR := xmr ⟨"RailwayHouse$Timetable", "legFare", "(III)I"⟩ prog_8_method_8_code 6 (some .int) ⟨1, 0, 0, 60⟩ 6
abbrev xRid : yMR := xmr ⟨"RailwayHouse$Journeys", "ride", "(IIIJ)V"⟩ prog_3_method_9_code 11 none ⟨2, 0, 0, 85⟩ 1
section YA
variable {l : Launch} {D : va_G} {b : Nat → Nat} {cw : va_W} {tys : List (ClassId × FieldType)} {sz : Nat} {ad : Nat → Nat} {cI : Nat → ClassId} {V : Nat → Nat → Int32} {L : Nat → Nat → Int64}
theorem jM_bet {a : jP} (ha : a.1 < 10000 ∧ a.2 < 2 ^ 60) {t : Option jP} {x : Int32} {y : Int64} (ht : jr t x y) : Met l (y_y xBet) (y_ws ztb xBet) (y_rm xBet) (y_Pc znw b zcls D cw tys sz [.int (nI a.1), .long (nL a.2), .int x, .long y]) (y_Q zcls D (fun cw' tys' rv => rv = some (.int (if jbt t a = true then 1 else 0)) ∧ tys' = tys ∧ cw' = cw) cw sz) 0 0 (va_A cw sz) := by
  refine xMet (tb := ytb yw00) (mr := xBet) yo_ym23 (fun x hx => by cases hx) (Nat.le_of_ble_eq_true rfl) ?_
  intro p e s m below meth c Q ls hsz hF hs hl kv ki
  have hl : lv_has ls 6 [(0, .int (nI a.1)), (1, .long (nL a.2)), (3, .int x), (4, .long y)] := hl
  have yes : jbt t a = true → ∀ ls : Array Slot, W p l e (y_rm xBet) s m [Value.int (nI a.1), .long (nL a.2), .int x, .long y].toArray below meth c s.heap [] 0 0 Q (F0 m 21 ls []) := fun hy ls => by
    refine lv_iconst (n := 1) (v := 1) hF.1 hF.2.1 (y_dcd_ok (by decide +kernel)) (by decide) ?_
    refine lv_goto (off := 4) (tgt := 26) hF.1 hF.2.1 (y_dcd_ok (by decide +kernel)) (by decide) ?_
    exact ki _ _ cw tys ls 26 _ .boolean rfl rfl (by decide +kernel) hs ⟨by rw [if_pos hy], rfl, rfl⟩
  have no : ¬ jbt t a = true → ∀ ls : Array Slot, W p l e (y_rm xBet) s m [Value.int (nI a.1), .long (nL a.2), .int x, .long y].toArray below meth c s.heap [] 0 0 Q (F0 m 25 ls []) := fun hy ls => by
    refine lv_iconst (n := 0) (v := 0) hF.1 hF.2.1 (y_dcd_ok (by decide +kernel)) (by decide) ?_
    exact ki _ _ cw tys ls 26 _ .boolean rfl rfl (by decide +kernel) hs ⟨by rw [if_neg hy], rfl, rfl⟩
  refine lv_iload_n (k := 3) hF.1 hF.2.1 (y_dcd_ok (by decide +kernel)) rfl (lv_at hl 2 rfl) ?_
  refine lv_if_eq (off := 20) (tgt := 21) hF.1 hF.2.1 (y_dcd_ok (by decide +kernel)) (by decide) (fun hq => ?_) (fun hq => ?_)
  · refine yes ?_ ls
    cases t with
    | none => rfl
    | some b =>
      obtain ⟨h1, _, h2, h3, _⟩ := ht
      rw [h1] at hq
      have := dni_injb (j := 0) (by omega) (by decide) hq
      omega
  obtain ⟨w, rfl⟩ : ∃ w, t = some w := by
    cases t with
    | none => exact absurd ht hq
    | some w => exact ⟨w, rfl⟩
  obtain ⟨rfl, rfl, h2, h3, h4⟩ := ht
  refine lv_iload_n (k := 0) hF.1 hF.2.1 (y_dcd_ok (by decide +kernel)) rfl (lv_at hl 0 rfl) ?_
  refine lv_iload_n (k := 3) hF.1 hF.2.1 (y_dcd_ok (by decide +kernel)) rfl (lv_at hl 2 rfl) ?_
  refine lv_icmp_lt (off := 15) (tgt := 21) hF.1 hF.2.1 (y_dcd_ok (by decide +kernel)) (by decide) (fun hq => ?_) (fun hq => ?_)
  · exact yes (decide_eq_true (Or.inl ((dni_ltb (by omega) (by omega)).mp hq))) ls
  have hge : ¬ a.1 < w.1 := fun q => hq ((dni_ltb (by omega) (by omega)).mpr q)
  refine lv_iload_n (k := 0) hF.1 hF.2.1 (y_dcd_ok (by decide +kernel)) rfl (lv_at hl 0 rfl) ?_
  refine lv_iload_n (k := 3) hF.1 hF.2.1 (y_dcd_ok (by decide +kernel)) rfl (lv_at hl 2 rfl) ?_
  refine lv_icmp_ne (off := 14) (tgt := 25) hF.1 hF.2.1 (y_dcd_ok (by decide +kernel)) (by decide) (fun hq => ?_) (fun hq => ?_)
  · refine no (fun q => ?_) ls
    have q : jlt a w := of_decide_eq_true q
    have hne : a.1 ≠ w.1 := fun z => hq (by rw [z])
    unfold jlt at q
    omega
  have he := dni_injb (by omega) (by omega) hq
  refine lv_lload_n (k := 1) hF.1 hF.2.1 (y_dcd_ok (by decide +kernel)) rfl (lv_at hl 1 rfl) ?_
  refine lv_lload (i := 4) hF.1 hF.2.1 (y_dcd_ok (by decide +kernel)) (lv_at hl 3 rfl) ?_
  refine W.lcmp hF.1 hF.2.1 (y_dcd_ok (by decide +kernel)) ?_
  refine lv_if_ge (off := 7) (tgt := 25) hF.1 hF.2.1 (y_dcd_ok (by decide +kernel)) (by decide) (fun hq => ?_) (fun hq => ?_)
  · refine no (fun q => ?_) ls
    have q : jlt a w := of_decide_eq_true q
    have hlt : a.2 < w.2 := by unfold jlt at q; omega
    have h5 := (lg_cmp_nL (i := a.2) (j := w.2) (by omega) (by omega)).1.mpr hlt
    have h6 := Int32.lt_iff_toInt_lt.mp h5
    have h7 := Int32.le_iff_toInt_le.mp hq
    omega
  · refine yes (decide_eq_true (Or.inr ⟨he, ?_⟩)) ls
    exact (lg_cmp_nL (i := a.2) (j := w.2) (by omega) (by omega)).1.mp (Int32.not_le.mp hq)
theorem jabs {a b : Nat} (ha : a ≤ 9) (hb : b ≤ 9) : 100 + 30 * (if 0 ≤ nI a - nI b then nI a - nI b else 0 - (nI a - nI b)) = nI (100 + 30 * ((a : Int) - b).natAbs) := by
  have h : ((List.range 10).all fun a => (List.range 10).all fun b => decide ((100 : Int32) + 30 * (if 0 ≤ nI a - nI b then nI a - nI b else 0 - (nI a - nI b)) = nI (100 + 30 * ((a : Int) - b).natAbs))) = true := by decide +kernel
  exact of_decide_eq_true (List.all_eq_true.mp (List.all_eq_true.mp h a (List.mem_range.mpr (by omega))) b (List.mem_range.mpr (by omega)))
set_option maxHeartbeats 1000000 in
theorem jM_leg {op : Int32} {u v : Nat} {rn ho he : Int32} {X : jT} (hX : jVc X V) (hT : xgT jI jJ cI tys) (hc : jW ad cI op u v rn ho he V L cw) {r i j : Nat} (hr : r < X.n) (hi : i < X.S r) (hj : j < X.S r) : Met l (y_y xLeg) (y_ws ztb xLeg) (y_rm xLeg) (y_Pc znw b zcls D cw tys sz [.ref (ad 79), .int (nI r), .int (nI i), .int (nI j)]) (y_Q zcls D (fun cw' tys' rv => rv = some (.int (nI (jfa X r i j))) ∧ tys' = tys ∧ cw' = cw) cw sz) 0 0 (va_A cw sz) := by
  refine xMet (tb := ytb yw00) (mr := xLeg) yo_ym55 (fun x hx => by cases hx) (Nat.le_of_ble_eq_true rfl) ?_
  intro p e s m below meth c Q ls hsz hF hs hl kv ki
  have hl : lv_has ls 6 [(0, .ref (ad 79)), (1, .int (nI r)), (2, .int (nI i)), (3, .int (nI j))] := hl
  have hn := hX.n
  have h8 := (hX.S r (by omega)).2
  have p1 : 8 * r + i < 96 := by omega
  have p2 : 8 * r + j < 96 := by omega
  have s1 := hX.st _ p1
  have s2 := hX.st _ p2
  have z1 := hX.zn _ s1.2
  have z2 := hX.zn _ s2.2
  refine lv_aload_n (k := 0) hF.1 hF.2.1 (y_dcd_ok (by decide +kernel)) rfl (lv_at hl 0 rfl) ?_
  refine ggo (n := 2177) (index := 15) hF hs hc 79 (by decide) rfl 1 (by decide) (by decide +kernel) rfl (by decide +kernel) ?_
  refine lv_aload_n (k := 0) hF.1 hF.2.1 (y_dcd_ok (by decide +kernel)) rfl (lv_at hl 0 rfl) ?_
  refine ggo (n := 2186) (index := 28) hF hs hc 79 (by decide) rfl 5 (by decide) (by decide +kernel) rfl (by decide +kernel) ?_
  refine lv_iload_n (k := 1) hF.1 hF.2.1 (y_dcd_ok (by decide +kernel)) rfl (lv_at hl 1 rfl) ?_
  refine lv_bipush (n := 8) (v := 8) hF.1 hF.2.1 (y_dcd_ok (by decide +kernel)) (by decide) ?_
  refine lv_imul hF.1 hF.2.1 (y_dcd_ok (by decide +kernel)) ?_
  refine lv_iload_n (k := 2) hF.1 hF.2.1 (y_dcd_ok (by decide +kernel)) rfl (lv_at hl 2 rfl) ?_
  refine lv_iadd hF.1 hF.2.1 (y_dcd_ok (by decide +kernel)) ?_
  rw [jpl (by omega) (by omega)]
  refine gald hF hs hT hc 84 96 (by decide) (by decide) p1 (by decide +kernel) ?_
  rw [s1.1]
  refine gald hF hs hT hc 81 8 (by decide) (by decide) s1.2 (by decide +kernel) ?_
  rw [z1.1]
  refine lv_istore (nL := 6) (i := 4) hF.1 hF.2.1 (y_dcd_ok (by decide +kernel)) hl (by decide) rfl (fun ls hl => ?_)
  refine lv_aload_n (k := 0) hF.1 hF.2.1 (y_dcd_ok (by decide +kernel)) rfl (lv_at hl 1 rfl) ?_
  refine ggo (n := 2177) (index := 15) hF hs hc 79 (by decide) rfl 1 (by decide) (by decide +kernel) rfl (by decide +kernel) ?_
  refine lv_aload_n (k := 0) hF.1 hF.2.1 (y_dcd_ok (by decide +kernel)) rfl (lv_at hl 1 rfl) ?_
  refine ggo (n := 2186) (index := 28) hF hs hc 79 (by decide) rfl 5 (by decide) (by decide +kernel) rfl (by decide +kernel) ?_
  refine lv_iload_n (k := 1) hF.1 hF.2.1 (y_dcd_ok (by decide +kernel)) rfl (lv_at hl 2 rfl) ?_
  refine lv_bipush (n := 8) (v := 8) hF.1 hF.2.1 (y_dcd_ok (by decide +kernel)) (by decide) ?_
  refine lv_imul hF.1 hF.2.1 (y_dcd_ok (by decide +kernel)) ?_
  refine lv_iload_n (k := 3) hF.1 hF.2.1 (y_dcd_ok (by decide +kernel)) rfl (lv_at hl 4 rfl) ?_
  refine lv_iadd hF.1 hF.2.1 (y_dcd_ok (by decide +kernel)) ?_
  rw [jpl (by omega) (by omega)]
  refine gald hF hs hT hc 84 96 (by decide) (by decide) p2 (by decide +kernel) ?_
  rw [s2.1]
  refine gald hF hs hT hc 81 8 (by decide) (by decide) s2.2 (by decide +kernel) ?_
  rw [z2.1]
  refine lv_istore (nL := 6) (i := 5) hF.1 hF.2.1 (y_dcd_ok (by decide +kernel)) hl (by decide) rfl (fun ls hl => ?_)
  refine lv_bipush (n := 100) (v := 100) hF.1 hF.2.1 (y_dcd_ok (by decide +kernel)) (by decide) ?_
  refine lv_bipush (n := 30) (v := 30) hF.1 hF.2.1 (y_dcd_ok (by decide +kernel)) (by decide) ?_
  refine lv_iload (i := 4) hF.1 hF.2.1 (y_dcd_ok (by decide +kernel)) (lv_at hl 1 rfl) ?_
  refine lv_iload (i := 5) hF.1 hF.2.1 (y_dcd_ok (by decide +kernel)) (lv_at hl 0 rfl) ?_
  refine lv_isub hF.1 hF.2.1 (y_dcd_ok (by decide +kernel)) ?_
  refine gabs (n := 7174) (index := 68) hF hl.1 (by decide +kernel) (by decide) (Nat.le_of_ble_eq_true rfl) (Nat.zero_le _) (Nat.zero_le _) (by decide +kernel) ?_
  refine lv_imul hF.1 hF.2.1 (y_dcd_ok (by decide +kernel)) ?_
  refine lv_iadd hF.1 hF.2.1 (y_dcd_ok (by decide +kernel)) ?_
  rw [jabs z1.2 z2.2]
  exact ki _ _ cw tys ls _ _ .int rfl rfl (by decide +kernel) hs ⟨rfl, rfl, rfl⟩
/-- a table in rows -/
def jtab (B : jB) (f : Nat → Int32) (c : Nat → Int64) : Prop := ∀ p, p < 96 → jr (B p) (f p) (c p)
theorem jtab_set {B : jB} {f : Nat → Int32} {c : Nat → Int64} (h : jtab B f c) {p : Nat} {a : jP} {x : Int32} {y : Int64} (ha : jr (some a) x y) : jtab (jset B p (some a)) (upd f p x) (vp_updL c p y) := by
  intro q hq
  unfold jset
  by_cases e : q = p
  · subst e
    rw [if_pos rfl]
    simp only [upd, vp_updL, if_pos]
    exact ha
  · rw [if_neg e]
    simp only [upd, vp_updL, if_neg e]
    exact h q hq
theorem jset_self (B : jB) (p : Nat) : jset B p (B p) = B := by
  funext q
  unfold jset
  split
  · rename_i h
    rw [h]
  · rfl
set_option maxHeartbeats 4000000 in
theorem jM_rid {op : Int32} {u v : Nat} (huv : jUV u v) {rn ho he : Int32} {X : jT} (hX : jVc X V) (hT : xgT jI jJ cI tys) (hc : jW ad cI op u v rn ho he V L cw) {r i : Nat} (hr : r < X.n) (hi : i + 1 < X.S r) {x : jP} (hx : x.1 < 5000 ∧ x.2 < 2 ^ 40) {B : jB} (hB : jtab B (V u) (L (u + 1))) : Met l (y_y xRid) (y_ws ztb xRid) (y_rm xRid) (y_Pc znw b zcls D cw tys sz [.ref (ad 93), .int (nI r), .int (nI i), .int (nI x.1), .long (nL x.2)]) (y_Q zcls D (fun cw' tys' rv => rv = none ∧ tys' = tys ∧ ∃ V' L', jW ad cI op u v rn ho he V' L' cw' ∧ (∀ q, q ≠ u → V' q = V q) ∧ (∀ q, q ≠ u + 1 → L' q = L q) ∧ jtab (jri X r i B x) (V' u) (L' (u + 1))) cw sz) 0 0 (va_A cw sz) := by
  refine xMet (tb := ytb yw00) (mr := xRid) yo_yr23 (fun x hx => by cases hx) (Nat.le_of_ble_eq_true rfl) ?_
  intro p e s m below meth c Q ls hsz hF hs hl kv ki
  have hl : lv_has ls 11 [(0, .ref (ad 93)), (1, .int (nI r)), (2, .int (nI i)), (3, .int (nI x.1)), (4, .long (nL x.2))] := hl
  generalize va_A cw sz = A at *
  obtain ⟨⟨huI, huJ⟩, hvI, hvJ⟩ := jUV_ok huv
  have hn := hX.n
  have h8 := (hX.S r (by omega)).2
  have hne : ∀ q, 80 ≤ q → q ≤ 86 → q ≠ u := fun q h1 h2 h3 => by rcases huv with ⟨a, _⟩ | ⟨a, _⟩ <;> omega
  have loop : ∀ (d k : Nat), k + d = X.S r → i < k → ∀ (H : Heap) (locs : List Loc) (cw : va_W) (V1 : Nat → Nat → Int32) (L1 : Nat → Nat → Int64) (ls : Array Slot), xs D s A H locs cw tys → jW ad cI op u v rn ho he V1 L1 cw → (∀ q, q ≠ u → V1 q = V q) → (∀ q, q ≠ u + 1 → L1 q = L q) → jtab (jrp X r i x k B) (V1 u) (L1 (u + 1)) → lv_has ls 11 [(6, .int (nI k)), (0, .ref (ad 93)), (1, .int (nI r)), (2, .int (nI i)), (3, .int (nI x.1)), (4, .long (nL x.2))] → W p l e (y_rm xRid) s m [Value.ref (ad 93), .int (nI r), .int (nI i), .int (nI x.1), .long (nL x.2)].toArray below meth c H locs 0 0 Q (F0 m 5 ls []) := by
    intro d
    induction d with
    | zero =>
      intro k hk hik H locs cw V1 L1 ls hs hc h1 h2 hB1 hl
      have eS : V1 83 r = nI (X.S r) := by rw [h1 83 (hne 83 (by decide) (by decide))]; exact (hX.S r (by omega)).1
      refine lv_iload (i := 6) hF.1 hF.2.1 (y_dcd_ok (by decide +kernel)) (lv_at hl 0 rfl) ?_
      refine lv_aload_n (k := 0) hF.1 hF.2.1 (y_dcd_ok (by decide +kernel)) rfl (lv_at hl 1 rfl) ?_
      refine ggo (n := 3004) (index := 41) hF hs hc 93 (by decide) rfl 0 (by decide) (by decide +kernel) rfl (by decide +kernel) ?_
      refine ggo (n := 2184) (index := 51) hF hs hc 79 (by decide) rfl 4 (by decide) (by decide +kernel) rfl (by decide +kernel) ?_
      refine lv_iload_n (k := 1) hF.1 hF.2.1 (y_dcd_ok (by decide +kernel)) rfl (lv_at hl 2 rfl) ?_
      refine gald hF hs hT hc 83 12 (by decide) (by decide) (show r < 12 by omega) (by decide +kernel) ?_
      rw [eS]
      refine lv_icmp_ge (off := 95) (tgt := 111) hF.1 hF.2.1 (y_dcd_ok (by decide +kernel)) (by decide) (fun hq => ?_) (fun hq => ?_)
      · exact kv _ _ cw tys ls 111 rfl (by decide +kernel) hs ⟨rfl, rfl, V1, L1, hc, h1, h2, by rw [show k = X.S r by omega] at hB1; exact hB1⟩
      · exact absurd ((dni_le (by omega) (by omega)).mpr (by omega)) hq
    | succ d ih =>
      intro k hk hik H locs cw V1 L1 ls hs hc h1 h2 hB1 hl
      have eS : V1 83 r = nI (X.S r) := by rw [h1 83 (hne 83 (by decide) (by decide))]; exact (hX.S r (by omega)).1
      have hX1 : jVc X V1 := by
        unfold jVc
        rw [h1 83 (hne 83 (by decide) (by decide)), h1 84 (hne 84 (by decide) (by decide)), h1 85 (hne 85 (by decide) (by decide)), h1 86 (hne 86 (by decide) (by decide)), h1 80 (hne 80 (by decide) (by decide)), h1 81 (hne 81 (by decide) (by decide))]
        exact hX
      have hp : 8 * r + k < 96 := by omega
      refine lv_iload (i := 6) hF.1 hF.2.1 (y_dcd_ok (by decide +kernel)) (lv_at hl 0 rfl) ?_
      refine lv_aload_n (k := 0) hF.1 hF.2.1 (y_dcd_ok (by decide +kernel)) rfl (lv_at hl 1 rfl) ?_
      refine ggo (n := 3004) (index := 41) hF hs hc 93 (by decide) rfl 0 (by decide) (by decide +kernel) rfl (by decide +kernel) ?_
      refine ggo (n := 2184) (index := 51) hF hs hc 79 (by decide) rfl 4 (by decide) (by decide +kernel) rfl (by decide +kernel) ?_
      refine lv_iload_n (k := 1) hF.1 hF.2.1 (y_dcd_ok (by decide +kernel)) rfl (lv_at hl 2 rfl) ?_
      refine gald hF hs hT hc 83 12 (by decide) (by decide) (show r < 12 by omega) (by decide +kernel) ?_
      rw [eS]
      refine lv_icmp_ge (off := 95) (tgt := 111) hF.1 hF.2.1 (y_dcd_ok (by decide +kernel)) (by decide) (fun hq => ?_) (fun hq => ?_)
      · exact absurd ((dni_le (by omega) (by omega)).mp hq) (by omega)
      refine lv_iload_n (k := 1) hF.1 hF.2.1 (y_dcd_ok (by decide +kernel)) rfl (lv_at hl 2 rfl) ?_
      refine lv_bipush (n := 8) (v := 8) hF.1 hF.2.1 (y_dcd_ok (by decide +kernel)) (by decide) ?_
      refine lv_imul hF.1 hF.2.1 (y_dcd_ok (by decide +kernel)) ?_
      refine lv_iload (i := 6) hF.1 hF.2.1 (y_dcd_ok (by decide +kernel)) (lv_at hl 0 rfl) ?_
      refine lv_iadd hF.1 hF.2.1 (y_dcd_ok (by decide +kernel)) ?_
      rw [jpl (by omega) (by omega)]
      refine lv_istore (nL := 11) (i := 7) hF.1 hF.2.1 (y_dcd_ok (by decide +kernel)) hl (by decide) rfl (fun ls hl => ?_)
      refine lv_iload_n (k := 3) hF.1 hF.2.1 (y_dcd_ok (by decide +kernel)) rfl (lv_at hl 5 rfl) ?_
      refine lv_aload_n (k := 0) hF.1 hF.2.1 (y_dcd_ok (by decide +kernel)) rfl (lv_at hl 2 rfl) ?_
      refine ggo (n := 3004) (index := 41) hF hs hc 93 (by decide) rfl 0 (by decide) (by decide +kernel) rfl (by decide +kernel) ?_
      refine lv_iload_n (k := 1) hF.1 hF.2.1 (y_dcd_ok (by decide +kernel)) rfl (lv_at hl 3 rfl) ?_
      refine lv_iload_n (k := 2) hF.1 hF.2.1 (y_dcd_ok (by decide +kernel)) rfl (lv_at hl 4 rfl) ?_
      refine lv_iload (i := 6) hF.1 hF.2.1 (y_dcd_ok (by decide +kernel)) (lv_at hl 1 rfl) ?_
      refine xcallV (As := [.int _, .int _, .int _]) (rest := [.int (nI x.1)]) (n := 7170) (j := 83) hF hs hl.1 (hc.hO 79 (by decide)) (cm := xLeg) yo_ym55 rfl (by decide) (by decide +kernel) (show _ = some 3 from by decide +kernel) (by decide +kernel) ⟨by decide, by decide⟩ ⟨rfl, rfl⟩ (Nat.le_of_ble_eq_true rfl) ⟨Nat.zero_le _, Nat.zero_le _⟩ (jM_leg hX1 hT hc hr (by omega) (by omega)) (fun H1 locs1 cw1 tys1 rv hs hX => ?_)
      obtain ⟨e1, e2, e3⟩ := hX
      subst e1
      rw [e2, e3] at hs
      show W _ _ _ _ _ _ _ _ _ _ _ _ _ _ _ (F0 m 40 ls [.int (nI (jfa X r i k)), .int (nI x.1)])
      refine lv_iadd hF.1 hF.2.1 (y_dcd_ok (by decide +kernel)) ?_
      have hfa : jfa X r i k < 1000 := by
        have z1 := (hX1.zn _ (hX1.st (8 * r + i) (by omega)).2).2
        have z2 := (hX1.zn _ (hX1.st (8 * r + k) (by omega)).2).2
        unfold jfa
        omega
      rw [dni_plus (by omega) (by omega)]
      refine lv_istore (nL := 11) (i := 8) hF.1 hF.2.1 (y_dcd_ok (by decide +kernel)) hl (by decide) rfl (fun ls hl => ?_)
      refine lv_lload (i := 4) hF.1 hF.2.1 (y_dcd_ok (by decide +kernel)) (lv_at hl 7 rfl) ?_
      refine lv_bipush (n := 10) (v := 10) hF.1 hF.2.1 (y_dcd_ok (by decide +kernel)) (by decide) ?_
      refine lv_lshl hF.1 hF.2.1 (y_dcd_ok (by decide +kernel)) rfl ?_
      refine lv_iload_n (k := 1) hF.1 hF.2.1 (y_dcd_ok (by decide +kernel)) rfl (lv_at hl 4 rfl) ?_
      refine lv_bipush (n := 6) (v := 6) hF.1 hF.2.1 (y_dcd_ok (by decide +kernel)) (by decide) ?_
      refine lv_ishl hF.1 hF.2.1 (y_dcd_ok (by decide +kernel)) ?_
      refine lv_iload_n (k := 2) hF.1 hF.2.1 (y_dcd_ok (by decide +kernel)) rfl (lv_at hl 5 rfl) ?_
      refine lv_iconst (n := 3) (v := 3) hF.1 hF.2.1 (y_dcd_ok (by decide +kernel)) (by decide) ?_
      refine lv_ishl hF.1 hF.2.1 (y_dcd_ok (by decide +kernel)) ?_
      refine lv_ior hF.1 hF.2.1 (y_dcd_ok (by decide +kernel)) ?_
      refine lv_iload (i := 6) hF.1 hF.2.1 (y_dcd_ok (by decide +kernel)) (lv_at hl 2 rfl) ?_
      refine lv_ior hF.1 hF.2.1 (y_dcd_ok (by decide +kernel)) ?_
      rw [jleg (by omega) (by omega) (by omega)]
      refine lv_i2l hF.1 hF.2.1 (y_dcd_ok (by decide +kernel)) rfl ?_
      refine lv_lor hF.1 hF.2.1 (y_dcd_ok (by decide +kernel)) ?_
      rw [nL_leg (by omega) (by omega)]
      obtain ⟨y, hy⟩ : ∃ y : jP, y = jup (jfa X r i k) (jco r i k) x := ⟨_, rfl⟩
      have hy1 : x.1 + jfa X r i k = y.1 := by rw [hy]; rfl
      have hy2 : x.2 * 1024 + (r * 64 + i * 8 + k) = y.2 := by rw [hy]; rfl
      have hfa1 : 0 < jfa X r i k := by unfold jfa; omega
      rw [hy1] at hl
      rw [hy2]
      refine lv_lstore (nL := 11) (i := 9) hF.1 hF.2.1 (y_dcd_ok (by decide +kernel)) hl (by decide) rfl (fun ls hl => ?_)
      refine lv_iload (i := 8) hF.1 hF.2.1 (y_dcd_ok (by decide +kernel)) (lv_at hl 1 rfl) ?_
      refine lv_lload (i := 9) hF.1 hF.2.1 (y_dcd_ok (by decide +kernel)) (lv_at hl 0 rfl) ?_
      refine lv_aload_n (k := 0) hF.1 hF.2.1 (y_dcd_ok (by decide +kernel)) rfl (lv_at hl 4 rfl) ?_
      refine ggo (n := 3014) (index := 29) hF hs hc 93 (by decide) rfl 6 (by decide) (by decide +kernel) rfl (by decide +kernel) ?_
      refine lv_iload (i := 7) hF.1 hF.2.1 (y_dcd_ok (by decide +kernel)) (lv_at hl 2 rfl) ?_
      refine gald hF hs hT hc u 96 huI (by decide) hp (by decide +kernel) ?_
      refine lv_aload_n (k := 0) hF.1 hF.2.1 (y_dcd_ok (by decide +kernel)) rfl (lv_at hl 4 rfl) ?_
      refine ggo (n := 3015) (index := 32) hF hs hc 93 (by decide) rfl 7 (by decide) (by decide +kernel) rfl (by decide +kernel) ?_
      refine lv_iload (i := 7) hF.1 hF.2.1 (y_dcd_ok (by decide +kernel)) (lv_at hl 2 rfl) ?_
      refine glald hF hs hT hc (u + 1) 96 huJ (by decide) hp (by decide +kernel) ?_
      refine xcallS (As := [.int _, .long _, .int _, .long _]) (rest := []) (n := 7177) (j := 79) hF hs hl.1 (cm := xBet) yo_ym23 (by decide) (by decide +kernel) (show _ = some 4 from by decide +kernel) (by decide +kernel) ⟨by decide, by decide⟩ ⟨rfl, rfl⟩ (Nat.le_of_ble_eq_true rfl) ⟨Nat.zero_le _, Nat.zero_le _⟩ (jM_bet (a := y) ⟨by omega, by omega⟩ (hB1 _ hp)) (fun H2 locs2 cw2 tys2 rv hs hX => ?_)
      obtain ⟨e1, e2', e3'⟩ := hX
      subst e1
      rw [e2', e3'] at hs
      show W _ _ _ _ _ _ _ _ _ _ _ _ _ _ _ (F0 m 84 ls [.int _])
      have hrs := jrp_s X r i x hik B
      rw [← hy, joff_bt] at hrs
      refine lv_if_eq (off := 21) (tgt := 105) hF.1 hF.2.1 (y_dcd_ok (by decide +kernel)) (by decide) (fun hq => ?_) (fun hq => ?_)
      · have hb : ¬ jbt (jrp X r i x k B (8 * r + k)) y = true := fun z => by
          rw [if_pos z] at hq
          exact absurd hq (by decide)
        refine lv_iinc (nL := 11) (i := 6) (n := 1) (k := 3) (v := nI (k + 1)) hF.1 hF.2.1 (y_dcd_ok (by decide +kernel)) hl rfl (dni_add (by omega)) (by decide) rfl (fun ls hl => ?_)
        refine lv_goto (off := (-103)) (tgt := 5) hF.1 hF.2.1 (y_dcd_ok (by decide +kernel)) (by decide) ?_
        refine ih (k + 1) (by omega) (by omega) _ _ cw V1 L1 ls hs hc h1 h2 ?_ (lv_sub hl [0, 4, 5, 6, 7, 8] rfl)
        rw [hrs, if_neg hb, jset_self]
        exact hB1
      have hb : jbt (jrp X r i x k B (8 * r + k)) y = true := by
        cases hb : jbt (jrp X r i x k B (8 * r + k)) y with
        | true => rfl
        | false =>
          rw [hb] at hq
          exact absurd rfl hq
      refine lv_aload_n (k := 0) hF.1 hF.2.1 (y_dcd_ok (by decide +kernel)) rfl (lv_at hl 4 rfl) ?_
      refine ggo (n := 3014) (index := 29) hF hs hc 93 (by decide) rfl 6 (by decide) (by decide +kernel) rfl (by decide +kernel) ?_
      refine lv_iload (i := 7) hF.1 hF.2.1 (y_dcd_ok (by decide +kernel)) (lv_at hl 2 rfl) ?_
      refine lv_iload (i := 8) hF.1 hF.2.1 (y_dcd_ok (by decide +kernel)) (lv_at hl 1 rfl) ?_
      refine gast hF hs hT hc u 96 huI (by decide) hp (by decide +kernel) (fun H locs cw hs hc => ?_)
      refine lv_aload_n (k := 0) hF.1 hF.2.1 (y_dcd_ok (by decide +kernel)) rfl (lv_at hl 4 rfl) ?_
      refine ggo (n := 3015) (index := 32) hF hs hc 93 (by decide) rfl 7 (by decide) (by decide +kernel) rfl (by decide +kernel) ?_
      refine lv_iload (i := 7) hF.1 hF.2.1 (y_dcd_ok (by decide +kernel)) (lv_at hl 2 rfl) ?_
      refine lv_lload (i := 9) hF.1 hF.2.1 (y_dcd_ok (by decide +kernel)) (lv_at hl 0 rfl) ?_
      refine glast hF hs hT hc (u + 1) 96 huJ (by decide) hp (by decide +kernel) (fun H locs cw hs hc => ?_)
      refine lv_iinc (nL := 11) (i := 6) (n := 1) (k := 3) (v := nI (k + 1)) hF.1 hF.2.1 (y_dcd_ok (by decide +kernel)) hl rfl (dni_add (by omega)) (by decide) rfl (fun ls hl => ?_)
      refine lv_goto (off := (-103)) (tgt := 5) hF.1 hF.2.1 (y_dcd_ok (by decide +kernel)) (by decide) ?_
      refine ih (k + 1) (by omega) (by omega) _ _ cw _ _ ls hs hc (fun q hq => by rw [xup_n _ _ _ hq]; exact h1 q hq) (fun q hq => by rw [xupL_n _ _ _ hq]; exact h2 q hq) ?_ (lv_sub hl [0, 4, 5, 6, 7, 8] rfl)
      rw [hrs, if_pos hb, xup_s, xupL_s]
      exact jtab_set hB1 ⟨rfl, rfl, by omega, by omega, by omega⟩
  refine lv_iload_n (k := 2) hF.1 hF.2.1 (y_dcd_ok (by decide +kernel)) rfl (lv_at hl 2 rfl) ?_
  refine lv_iconst (n := 1) (v := 1) hF.1 hF.2.1 (y_dcd_ok (by decide +kernel)) (by decide) ?_
  refine lv_iadd hF.1 hF.2.1 (y_dcd_ok (by decide +kernel)) ?_
  rw [dni_add1 (by omega)]
  refine lv_istore (nL := 11) (i := 6) hF.1 hF.2.1 (y_dcd_ok (by decide +kernel)) hl (by decide) rfl (fun ls hl => ?_)
  exact loop (X.S r - (i + 1)) (i + 1) (by omega) (by omega) _ _ cw V L ls hs hc (fun _ _ => rfl) (fun _ _ => rfl) (by rw [jrp_0 X r i x (Nat.le_refl _)]; exact hB) hl
end YA
