-- rows of both sides are alike
theorem lw_rowS {n0 : Nat} {w : yWr} {cw cw' : va_W} {r : Nat} (hs : y_same n0 w cw cw') (h1 : r < n0) (h2 : r ∉ w.2.1) (h : y_hasR cw r) : y_hasR cw' r ∧ y_row cw' r = y_row cw r := by
  obtain ⟨a, cA, len, f, h⟩ := h
  have h' := hs.2.2 r _ h ⟨_, rfl⟩ (fun _ => h2) (fun z => by omega)
  exact ⟨⟨a, cA, len, f, h'⟩, by rw [y_row_eq h, y_row_eq h']⟩
theorem lw_fldS {n0 : Nat} {w : yWr} {cw cw' : va_W} {c f : Nat} (hs : y_same n0 w cw cw') (h1 : c < n0) (h2 : (c, f) ∉ w.1) (h : y_hasF cw c f) : y_hasF cw' c f ∧ y_fld cw' c f = y_fld cw c f := by
  obtain ⟨a, ci, vs, x, g1, g2⟩ := h
  obtain ⟨vs', g3, g4⟩ := hs.2.1 c a ci vs g1
  have e := (g4 f (fun _ => h2) (fun z => by omega)).trans g2
  exact ⟨⟨a, ci, vs', x, g3, e⟩, by rw [y_fld_eq g1 g2, y_fld_eq g3 e]⟩
def lwR4 : List Nat := (lwRP.map (fun q => q.1) ++ lwRP.map (fun q => q.2.1)) ++ (lwRB.map (fun q => q.1) ++ lwRB.map (fun q => q.2))
/-- rows that are alike -/
def lwRr (cw : va_W) : Prop := (∀ r ∈ lwR4, y_hasR cw r) ∧ (∀ q ∈ lwRP, y_row cw q.1 = y_row cw q.2.1 ∧ ∀ p, y_in q.2.2 (z_b (y_row cw q.1 p))) ∧ ∀ q ∈ lwRB, ∀ j, j < 7 → y_row cw q.1 j = y_row cw q.2 j
/-- as many are ordered -/
def lwRo (cw : va_W) : Prop := (y_hasF cw 102 1 ∧ y_hasF cw 114 142) ∧ y_fld cw 102 1 = y_fld cw 114 142
def lwR (cw : va_W) : Prop := lwRr cw ∧ lwRo cw
def lwOw (w : yWr) : Bool := lwR4.all fun r => and (decide (r < ySh.length)) (!(w.2.1.contains r))
def lwOf (w : yWr) : Bool := and (!(w.1.contains (102, 1))) (!(w.1.contains (114, 142)))
def lwOR (w : yWr) : Bool := and (lwOw w) (lwOf w)
theorem lwOR_ok {w : yWr} (ho : lwOw w = true) {r : Nat} (hr : r ∈ lwR4) : r < ySh.length ∧ r ∉ w.2.1 := by
  obtain ⟨o1, o2⟩ := z_and (List.all_eq_true.mp ho r hr)
  refine ⟨of_decide_eq_true o1, fun z => ?_⟩
  rw [List.contains_iff_mem.mpr z] at o2
  cases o2
theorem lwOf_ok {w : yWr} (ho : lwOf w = true) : (102, 1) ∉ w.1 ∧ (114, 142) ∉ w.1 := by
  obtain ⟨o1, o2⟩ := z_and ho
  refine ⟨fun z => ?_, fun z => ?_⟩
  · rw [List.contains_iff_mem.mpr z] at o1
    cases o1
  · rw [List.contains_iff_mem.mpr z] at o2
    cases o2
theorem lwR4_1 {q : Nat × Nat × yD} (h : q ∈ lwRP) : q.1 ∈ lwR4 := List.mem_append.mpr (Or.inl (List.mem_append.mpr (Or.inl (List.mem_map.mpr ⟨q, h, rfl⟩))))
theorem lwR4_2 {q : Nat × Nat × yD} (h : q ∈ lwRP) : q.2.1 ∈ lwR4 := List.mem_append.mpr (Or.inl (List.mem_append.mpr (Or.inr (List.mem_map.mpr ⟨q, h, rfl⟩))))
theorem lwR4_3 {q : Nat × Nat} (h : q ∈ lwRB) : q.1 ∈ lwR4 := List.mem_append.mpr (Or.inr (List.mem_append.mpr (Or.inl (List.mem_map.mpr ⟨q, h, rfl⟩))))
theorem lwR4_4 {q : Nat × Nat} (h : q ∈ lwRB) : q.2 ∈ lwR4 := List.mem_append.mpr (Or.inr (List.mem_append.mpr (Or.inr (List.mem_map.mpr ⟨q, h, rfl⟩))))
theorem lwRr_same {w : yWr} {cw cw' : va_W} (ho : lwOw w = true) (hs : y_same ySh.length w cw cw') (h : lwRr cw) : lwRr cw' := by
  obtain ⟨h1, h2, h3⟩ := h
  have k : ∀ r ∈ lwR4, y_hasR cw' r ∧ y_row cw' r = y_row cw r := fun r hr => lw_rowS hs (lwOR_ok ho hr).1 (lwOR_ok ho hr).2 (h1 r hr)
  refine ⟨fun r hr => (k r hr).1, fun q hq => ?_, fun q hq j hj => ?_⟩
  · rw [(k _ (lwR4_1 hq)).2, (k _ (lwR4_2 hq)).2]
    exact h2 q hq
  · rw [(k _ (lwR4_3 hq)).2, (k _ (lwR4_4 hq)).2]
    exact h3 q hq j hj
theorem lwRo_same {w : yWr} {cw cw' : va_W} (ho : lwOf w = true) (hs : y_same ySh.length w cw cw') (h : lwRo cw) : lwRo cw' := by
  obtain ⟨⟨h1, h2⟩, h3⟩ := h
  obtain ⟨k1, k2⟩ := lw_fldS hs (by decide +kernel) (lwOf_ok ho).1 h1
  obtain ⟨k3, k4⟩ := lw_fldS hs (by decide +kernel) (lwOf_ok ho).2 h2
  exact ⟨⟨k1, k3⟩, by rw [k2, k4]; exact h3⟩
theorem lwR_same {w : yWr} {cw cw' : va_W} (ho : lwOR w = true) (hs : y_same ySh.length w cw cw') (h : lwR cw) : lwR cw' := ⟨lwRr_same (z_and ho).1 hs h.1, lwRo_same (z_and ho).2 hs h.2⟩
theorem lwR_st : y_Kst (ytbL ywLs) lwR := fun cw cw' hs h => lwR_same (w := y_plw ywLs) (by decide +kernel) hs h
/-- a row after what was written -/
def lwApp (sg : List Int32) : List (yV × yV) → (Nat → Int32) → (Nat → Int32) → Prop
  | [], f, f' => f' = f
  | q :: t, f, f' => ∃ (g : Nat → Int32) (x y : Int32), lwApp sg t f g ∧ y_gi sg q.1 x ∧ y_gi sg q.2 y ∧ f' = upd g x.toNatClampNeg y
theorem lwLg_row {n0 : Nat} {wr : yWr} {sg : List Int32} {cwB : va_W} {r : Nat} (h1 : r < n0) (h2 : r ∉ wr.2.1) (hB : y_hasR cwB r) : ∀ {lg : List yLg} {cw : va_W}, (lg.all fun q => or (Nat.beq q.1 0) (Nat.beq q.1 2)) = true → y_lgr n0 wr sg cwB lg cw → y_hasR cw r ∧ lwApp sg (lwWs r lg) (y_row cwB r) (y_row cw r)
  | [], cw, _, h => lw_rowS h h1 h2 hB
  | (0, r', j, v) :: t, cw, hk, ⟨cwm, a, cA, len, f, x, y, g1, g2, g3, g4, g5, g6, g7⟩ => by
    rw [List.all_cons, Bool.and_eq_true] at hk
    obtain ⟨i1, i2⟩ := lwLg_row h1 h2 hB (lg := t) hk.2 g1
    show _ ∧ lwApp sg (cond (Nat.beq r' r) ((j, v) :: lwWs r t) (lwWs r t)) _ _
    cases hr : Nat.beq r' r with
    | true =>
      have e := Nat.eq_of_beq_eq_true hr
      subst e
      have hl : r' < cwm.length := (List.getElem?_eq_some_iff.mp g3).1
      obtain ⟨k1, k2⟩ := lw_rowS g7 h1 h2 ⟨a, cA, len, _, List.getElem?_set_self hl⟩
      refine ⟨k1, y_row cwm r', x, y, i2, g4, g6, ?_⟩
      rw [k2, y_row_eq (List.getElem?_set_self hl), y_row_eq g3]
    | false =>
      have e : r' ≠ r := fun z => by
        rw [z, Nat.beq_refl] at hr
        cases hr
      obtain ⟨b1, b2, b3, b4, b5⟩ := i1
      have q : (cwm.set r' (a, .inl (cA, len, .inl (upd f x.toNatClampNeg y))))[r]? = some (b1, .inl (b2, b3, .inl b4)) := by
        rw [List.getElem?_set_ne e]
        exact b5
      obtain ⟨k1, k2⟩ := lw_rowS g7 h1 h2 ⟨_, _, _, _, q⟩
      refine ⟨k1, ?_⟩
      show lwApp sg (lwWs r t) _ _
      rw [k2, y_row_eq q, ← y_row_eq b5]
      exact i2
  | (2, r', j, v) :: t, cw, hk, ⟨cwm, a, cA, len, f, x, g1, g2, g3, g4, g5, g6, g7⟩ => by
    rw [List.all_cons, Bool.and_eq_true] at hk
    obtain ⟨i1, i2⟩ := lwLg_row h1 h2 hB (lg := t) hk.2 g1
    obtain ⟨k1, k2⟩ := lw_rowS g7 h1 h2 i1
    refine ⟨k1, ?_⟩
    show lwApp sg (lwWs r t) _ _
    rw [k2]
    exact i2
  | (1, _, _, _) :: t, cw, hk, _ => by
    rw [List.all_cons, Bool.and_eq_true] at hk
    exact absurd (show false = true from hk.1) Bool.false_ne_true
  | (3, _, _, _) :: t, cw, hk, _ => by
    rw [List.all_cons, Bool.and_eq_true] at hk
    exact absurd (show false = true from hk.1) Bool.false_ne_true
  | (_ + 4, _, _, _) :: t, cw, hk, _ => by
    rw [List.all_cons, Bool.and_eq_true] at hk
    exact absurd (show false = true from hk.1) Bool.false_ne_true
theorem lwApp_fun {sg : List Int32} : ∀ {a b : List (yV × yV)} {f f1 f2 : Nat → Int32}, lwWq a b = true → lwApp sg a f f1 → lwApp sg b f f2 → f1 = f2
  | [], [], f, f1, f2, _, h1, h2 => by
    have h1 : f1 = f := h1
    have h2 : f2 = f := h2
    rw [h1, h2]
  | p :: a, q :: b, f, f1, f2, h, ⟨g, x, y, h1, h2, h3, h4⟩, ⟨g', x', y', k1, k2, k3, k4⟩ => by
    have h : and (y_eqv p.1 q.1) (and (y_eqv p.2 q.2) (lwWq a b)) = true := h
    obtain ⟨e1, h⟩ := z_and h
    obtain ⟨e2, h⟩ := z_and h
    rw [y_eqv_ok e1] at h2
    rw [y_eqv_ok e2] at h3
    rw [h4, k4, lwApp_fun h h1 k1, y_gi_fun h2 k2, y_gi_fun h3 k3]
  | [], _ :: _, _, _, _, h, _, _ => by cases h
  | _ :: _, [], _, _, _, h, _, _ => by cases h
theorem lwApp_in {sg : List Int32} {env : yEnv} (he : y_erel sg env) {ws : List (yV × yV)} {f : Nat → Int32} {E : yD} (hf : ∀ p, y_in E (z_b (f p))) : ∀ {f' : Nat → Int32}, (ws.all fun q => y_dm env q.2 fun D => y_sub D E) = true → lwApp sg ws f f' → ∀ p, y_in E (z_b (f' p)) := by
  induction ws with
  | nil =>
    intro f' _ h
    have h : f' = f := h
    rw [h]
    exact hf
  | cons q t ih =>
    intro f' hk h
    obtain ⟨g, x, y, h1, h2, h3, h4⟩ := h
    rw [List.all_cons, Bool.and_eq_true] at hk
    obtain ⟨D, d1, d2⟩ := y_dm_ok hk.1 he h3
    intro p
    rw [h4]
    unfold upd
    split
    · exact y_sub_ok d2 d1
    · exact ih hk.2 h1 p
theorem lwLg_fld {n0 : Nat} {wr : yWr} {sg : List Int32} {cwB : va_W} {c f : Nat} (h1 : c < n0) (h2 : (c, f) ∉ wr.1) (hB : y_hasF cwB c f) : ∀ {lg : List yLg} {cw : va_W}, (lg.all fun q => or (Nat.beq q.1 0) (Nat.beq q.1 2)) = true → y_lgr n0 wr sg cwB lg cw → y_hasF cw c f ∧ y_fld cw c f = y_fld cwB c f
  | [], cw, _, h => lw_fldS h h1 h2 hB
  | (0, r', j, v) :: t, cw, hk, ⟨cwm, a, cA, len, g, x, y, g1, g2, g3, g4, g5, g6, g7⟩ => by
    rw [List.all_cons, Bool.and_eq_true] at hk
    obtain ⟨⟨b1, b2, b3, b4, b5, b6⟩, i2⟩ := lwLg_fld h1 h2 hB (lg := t) hk.2 g1
    have e : r' ≠ c := fun z => by
      rw [z, b5] at g3
      cases g3
    have q : (cwm.set r' (a, .inl (cA, len, .inl (upd g x.toNatClampNeg y))))[c]? = some (b1, .inr (b2, b3)) := by
      rw [List.getElem?_set_ne e]
      exact b5
    obtain ⟨k1, k2⟩ := lw_fldS g7 h1 h2 ⟨_, _, _, _, q, b6⟩
    refine ⟨k1, ?_⟩
    rw [k2, y_fld_eq q b6, ← i2, y_fld_eq b5 b6]
  | (2, r', j, v) :: t, cw, hk, ⟨cwm, a, cA, len, g, x, g1, g2, g3, g4, g5, g6, g7⟩ => by
    rw [List.all_cons, Bool.and_eq_true] at hk
    obtain ⟨i1, i2⟩ := lwLg_fld h1 h2 hB (lg := t) hk.2 g1
    obtain ⟨k1, k2⟩ := lw_fldS g7 h1 h2 i1
    exact ⟨k1, by rw [k2, i2]⟩
  | (1, _, _, _) :: t, cw, hk, _ => by
    rw [List.all_cons, Bool.and_eq_true] at hk
    exact absurd (show false = true from hk.1) Bool.false_ne_true
  | (3, _, _, _) :: t, cw, hk, _ => by
    rw [List.all_cons, Bool.and_eq_true] at hk
    exact absurd (show false = true from hk.1) Bool.false_ne_true
  | (_ + 4, _, _, _) :: t, cw, hk, _ => by
    rw [List.all_cons, Bool.and_eq_true] at hk
    exact absurd (show false = true from hk.1) Bool.false_ne_true
theorem lwApp_nil {sg : List Int32} {a : List (yV × yV)} {f f' : Nat → Int32} (h : lwWq a [] = true) (h1 : lwApp sg a f f') : f' = f := by
  cases a with
  | nil => exact h1
  | cons _ _ => cases h
theorem lwR_of {sg : List Int32} {env : yEnv} {lg : List yLg} {cw : va_W} (he : y_erel sg env) (hk : lwLq env lg = true) (h : y_KL (ytbL ywLs) lwR sg lg cw) : lwR cw := by
  obtain ⟨cwB, ⟨⟨r1, r2, r3⟩, ⟨f1, f2⟩, f3⟩, hl⟩ := h
  obtain ⟨q1, q2⟩ := z_and hk
  obtain ⟨q1, q0⟩ := z_and q1
  have ho : lwOw (y_plw ywLs) = true := by decide +kernel
  have hf := lwOf_ok (w := y_plw ywLs) (by decide +kernel)
  have k : ∀ r ∈ lwR4, y_hasR cw r ∧ lwApp sg (lwWs r lg) (y_row cwB r) (y_row cw r) := fun r hr => lwLg_row (lwOR_ok ho hr).1 (lwOR_ok ho hr).2 (r1 r hr) q1 hl
  refine ⟨⟨fun r hr => (k r hr).1, fun q hq => ?_, fun q hq j hj => ?_⟩, ?_⟩
  · obtain ⟨q3, q4⟩ := z_and (List.all_eq_true.mp q2 q hq)
    have k2 := (k _ (lwR4_2 hq)).2
    rw [← (r2 q hq).1] at k2
    exact ⟨lwApp_fun q3 (k _ (lwR4_1 hq)).2 k2, lwApp_in he (r2 q hq).2 q4 (k _ (lwR4_1 hq)).2⟩
  · obtain ⟨q3, q4⟩ := z_and (List.all_eq_true.mp q0 q hq)
    rw [lwApp_nil q3 (k _ (lwR4_3 hq)).2, lwApp_nil q4 (k _ (lwR4_4 hq)).2]
    exact r3 q hq j hj
  · obtain ⟨k1, k2⟩ := lwLg_fld (c := 102) (f := 1) (by decide +kernel) hf.1 f1 q1 hl
    obtain ⟨k3, k4⟩ := lwLg_fld (c := 114) (f := 142) (by decide +kernel) hf.2 f2 q1 hl
    exact ⟨⟨k1, k3⟩, by rw [k2, k4]; exact f3⟩
section LS
variable {l : Launch} {D : va_G}
theorem lwCs : ∀ (n : Nat) (cn : yCN), (ytbL ywLs).2.2.2.2.1[n]? = some cn → (y_rm cn.1).frames < 4000 → y_wle (ytbL ywLs) cn.2.2.2.2 = true → y_Con ztb znw zcls l D (fun cw => y_kc cn.2.2.2.2 = true → lwR cw) (ytbL ywLs) cn := by
  intro n cn h _ hw
  have hk : y_kc cn.2.2.2.2 = false := by
    cases hk : y_kc cn.2.2.2.2 with
    | false => rfl
    | true =>
      obtain ⟨q, q1, q2, q3⟩ := lw_kc hk
      have := List.all_eq_true.mp (by decide +kernel : (ywLs.2.1.all fun q => !(decide (900 ≤ q) && decide (q ≤ 999))) = true) q ((y_wle_ok hw).2.1 q q1)
      rw [decide_eq_true q2, decide_eq_true q3] at this
      cases this
  have h : (ycs ++ [ycLd2, ycCl3])[n]? = some cn := h
  by_cases hn : n < ycs.length
  · rw [List.getElem?_append_left hn] at h
    have hin := List.mem_of_getElem? h
    have hiff := yKm_iff (w := ywLs) (K := yKTt) (y_wle_ok hw).2.1 (yMB_ok (m := 992) (by decide +kernel) (Or.inl rfl))
    have h0 := y_Con_K hiff (yCon' (l := l) (D := D) hin)
    refine y_Con_tb (tb := ytb yw00) rfl rfl rfl ?_
    exact y_Con_K (K := fun cw => y_kc cn.2.2.2.2 = true → yKTt cw) (fun cw => ⟨fun _ z => (by rw [hk] at z; cases z), fun _ z => (by rw [hk] at z; cases z)⟩) h0
  · rw [List.getElem?_append_right (by omega)] at h
    have hm := List.mem_of_getElem? h
    have hb : ∀ c ∈ [ycLd2, ycCl3], y_kc c.2.2.2.2 = true := y_forall (by decide +kernel) <| y_forall (by decide +kernel) y_fornil
    rw [hb cn hm] at hk
    cases hk
end LS
