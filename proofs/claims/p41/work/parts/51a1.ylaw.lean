-- rows of both sides are alike, as far as they go
theorem lw_rowS {n0 : Nat} {w : yWr} {cw cw' : va_W} {r : Nat} (hs : y_same n0 w cw cw') (h1 : r < n0) (h2 : r ∉ w.2.1) (h : y_hasR cw r) : y_hasR cw' r ∧ y_row cw' r = y_row cw r := by
  obtain ⟨a, cA, len, f, h⟩ := h
  have h' := hs.2.2 r _ h ⟨_, rfl⟩ (fun _ => h2) (fun z => by omega)
  exact ⟨⟨a, cA, len, f, h'⟩, by rw [y_row_eq h, y_row_eq h']⟩
def lwR4 : List Nat := lwRP.map (fun q => q.1) ++ lwRP.map (fun q => q.2.1)
def lwR (cw : va_W) : Prop := (∀ r ∈ lwR4, y_hasR cw r) ∧ ∀ q ∈ lwRP, ∀ j, j < q.2.2.1 → y_row cw q.1 j = y_row cw q.2.1 j ∧ y_in q.2.2.2 (z_b (y_row cw q.1 j))
def lwOR (w : yWr) : Bool := lwR4.all fun r => and (decide (r < ySh.length)) (!(w.2.1.contains r))
theorem lwOR_ok {w : yWr} (ho : lwOR w = true) {r : Nat} (hr : r ∈ lwR4) : r < ySh.length ∧ r ∉ w.2.1 := by
  obtain ⟨o1, o2⟩ := z_and (List.all_eq_true.mp ho r hr)
  refine ⟨of_decide_eq_true o1, fun z => ?_⟩
  rw [List.contains_iff_mem.mpr z] at o2
  cases o2
theorem lwR4_1 {q : Nat × Nat × Nat × yD} (h : q ∈ lwRP) : q.1 ∈ lwR4 := List.mem_append.mpr (Or.inl (List.mem_map.mpr ⟨q, h, rfl⟩))
theorem lwR4_2 {q : Nat × Nat × Nat × yD} (h : q ∈ lwRP) : q.2.1 ∈ lwR4 := List.mem_append.mpr (Or.inr (List.mem_map.mpr ⟨q, h, rfl⟩))
theorem lwR_same {w : yWr} {cw cw' : va_W} (ho : lwOR w = true) (hs : y_same ySh.length w cw cw') (h : lwR cw) : lwR cw' := by
  obtain ⟨h1, h2⟩ := h
  have k : ∀ r ∈ lwR4, y_hasR cw' r ∧ y_row cw' r = y_row cw r := fun r hr => lw_rowS hs (lwOR_ok ho hr).1 (lwOR_ok ho hr).2 (h1 r hr)
  refine ⟨fun r hr => (k r hr).1, fun q hq => ?_⟩
  rw [(k _ (lwR4_1 hq)).2, (k _ (lwR4_2 hq)).2]
  exact h2 q hq
theorem lwR_st : y_Kst (ytbL ywLs) lwR := fun cw cw' hs h => lwR_same (w := y_plw ywLs) (by decide +kernel) hs h
/-- a row after what was written -/
def lwApp (sg : List Int32) : List (yV × yV) → (Nat → Int32) → (Nat → Int32) → Prop
  | [], f, f' => f' = f
  | q :: t, f, f' => ∃ (g : Nat → Int32) (x y : Int32), lwApp sg t f g ∧ y_gi sg q.1 x ∧ y_gi sg q.2 y ∧ f' = upd g x.toNatClampNeg y
theorem lwLg_row {n0 : Nat} {wr : yWr} {sg : List Int32} {cwB : va_W} {r : Nat} (h1 : r < n0) (h2 : r ∉ wr.2.1) (hB : y_hasR cwB r) : ∀ {lg : List yLg} {cw : va_W}, (lg.all fun q => or (Nat.beq q.1 0) (Nat.beq q.1 2)) = true → y_lgr n0 wr sg cwB lg cw → y_hasR cw r ∧ lwApp sg (lwWs r lg) (y_row cwB r) (y_row cw r)
  | [], cw, _, h => lw_rowS h h1 h2 hB
  | (0, r', j, v) :: t, cw, hk, ⟨cwm, a, cA, len, f, x, y, g1, g2, g3, g4, g5, g6, g7⟩ => by
    rw [List.all_cons, Bool.and_eq_true] at hk
    obtain ⟨i1, i2⟩ := lwLg_row h1 h2 hB (lg := t) hk.2 g1
    show _ ∧ lwApp sg (cond (Nat.beq r' r) ((j, v) :: lwWs r t) (lwWs r t)) _ _
    cases hr : Nat.beq r' r with
    | true =>
      have e := Nat.eq_of_beq_eq_true hr
      subst e
      have hl : r' < cwm.length := (List.getElem?_eq_some_iff.mp g3).1
      obtain ⟨k1, k2⟩ := lw_rowS g7 h1 h2 ⟨a, cA, len, _, List.getElem?_set_self hl⟩
      refine ⟨k1, y_row cwm r', x, y, i2, g4, g6, ?_⟩
      rw [k2, y_row_eq (List.getElem?_set_self hl), y_row_eq g3]
    | false =>
      have e : r' ≠ r := fun z => by
        rw [z, Nat.beq_refl] at hr
        cases hr
      obtain ⟨b1, b2, b3, b4, b5⟩ := i1
      have q : (cwm.set r' (a, .inl (cA, len, .inl (upd f x.toNatClampNeg y))))[r]? = some (b1, .inl (b2, b3, .inl b4)) := by
        rw [List.getElem?_set_ne e]
        exact b5
      obtain ⟨k1, k2⟩ := lw_rowS g7 h1 h2 ⟨_, _, _, _, q⟩
      refine ⟨k1, ?_⟩
      show lwApp sg (lwWs r t) _ _
      rw [k2, y_row_eq q, ← y_row_eq b5]
      exact i2
  | (2, r', j, v) :: t, cw, hk, ⟨cwm, a, cA, len, f, x, g1, g2, g3, g4, g5, g6, g7⟩ => by
    rw [List.all_cons, Bool.and_eq_true] at hk
    obtain ⟨i1, i2⟩ := lwLg_row h1 h2 hB (lg := t) hk.2 g1
    obtain ⟨k1, k2⟩ := lw_rowS g7 h1 h2 i1
    refine ⟨k1, ?_⟩
    show lwApp sg (lwWs r t) _ _
    rw [k2]
    exact i2
  | (1, _, _, _) :: t, cw, hk, _ => by
    rw [List.all_cons, Bool.and_eq_true] at hk
    exact absurd (show false = true from hk.1) Bool.false_ne_true
  | (3, _, _, _) :: t, cw, hk, _ => by
    rw [List.all_cons, Bool.and_eq_true] at hk
    exact absurd (show false = true from hk.1) Bool.false_ne_true
  | (_ + 4, _, _, _) :: t, cw, hk, _ => by
    rw [List.all_cons, Bool.and_eq_true] at hk
    exact absurd (show false = true from hk.1) Bool.false_ne_true
theorem lwApp_al {sg : List Int32} {L : Nat} : ∀ {a b : List (yV × yV)} {f f' f1 f2 : Nat → Int32}, (∀ j, j < L → f j = f' j) → lwWq a b = true → lwApp sg a f f1 → lwApp sg b f' f2 → ∀ j, j < L → f1 j = f2 j
  | [], [], f, f', f1, f2, hf, _, h1, h2 => by
    have h1 : f1 = f := h1
    have h2 : f2 = f' := h2
    rw [h1, h2]
    exact hf
  | p :: a, q :: b, f, f', f1, f2, hf, h, ⟨g, x, y, h1, h2, h3, h4⟩, ⟨g', x', y', k1, k2, k3, k4⟩ => by
    have h : and (y_eqv p.1 q.1) (and (y_eqv p.2 q.2) (lwWq a b)) = true := h
    obtain ⟨e1, h⟩ := z_and h
    obtain ⟨e2, h⟩ := z_and h
    rw [y_eqv_ok e1] at h2
    rw [y_eqv_ok e2] at h3
    intro j hj
    rw [h4, k4, y_gi_fun h2 k2, y_gi_fun h3 k3]
    unfold upd
    split
    · rfl
    · exact lwApp_al hf h h1 k1 j hj
  | [], _ :: _, _, _, _, _, _, h, _, _ => by cases h
  | _ :: _, [], _, _, _, _, _, h, _, _ => by cases h
theorem lwApp_in {sg : List Int32} {env : yEnv} (he : y_erel sg env) {ws : List (yV × yV)} {f : Nat → Int32} {E : yD} {L : Nat} (hf : ∀ p, p < L → y_in E (z_b (f p))) : ∀ {f' : Nat → Int32}, (ws.all fun q => y_dm env q.2 fun D => y_sub D E) = true → lwApp sg ws f f' → ∀ p, p < L → y_in E (z_b (f' p)) := by
  induction ws with
  | nil =>
    intro f' _ h
    have h : f' = f := h
    rw [h]
    exact hf
  | cons q t ih =>
    intro f' hk h
    obtain ⟨g, x, y, h1, h2, h3, h4⟩ := h
    rw [List.all_cons, Bool.and_eq_true] at hk
    obtain ⟨D, d1, d2⟩ := y_dm_ok hk.1 he h3
    intro p hp
    rw [h4]
    unfold upd
    split
    · exact y_sub_ok d2 d1
    · exact ih hk.2 h1 p hp
theorem lwR_of {sg : List Int32} {env : yEnv} {lg : List yLg} {cw : va_W} (he : y_erel sg env) (hk : lwLq env lg = true) (h : y_KL (ytbL ywLs) lwR sg lg cw) : lwR cw := by
  obtain ⟨cwB, ⟨r1, r2⟩, hl⟩ := h
  obtain ⟨q1, q2⟩ := z_and hk
  have ho : lwOR (y_plw ywLs) = true := by decide +kernel
  have k : ∀ r ∈ lwR4, y_hasR cw r ∧ lwApp sg (lwWs r lg) (y_row cwB r) (y_row cw r) := fun r hr => lwLg_row (lwOR_ok ho hr).1 (lwOR_ok ho hr).2 (r1 r hr) q1 hl
  refine ⟨fun r hr => (k r hr).1, fun q hq j hj => ?_⟩
  obtain ⟨q3, q4⟩ := z_and (List.all_eq_true.mp q2 q hq)
  exact ⟨lwApp_al (fun j hj => (r2 q hq j hj).1) q3 (k _ (lwR4_1 hq)).2 (k _ (lwR4_2 hq)).2 j hj, lwApp_in he (fun j hj => (r2 q hq j hj).2) q4 (k _ (lwR4_1 hq)).2 j hj⟩
/-- an element of which the items tell -/
theorem lw_AI {n0 : Nat} {lv : List (Nat × Value)} {cw : va_W} : ∀ {is : List yIt} {gs : List Int32}, y_AI n0 lv cw gs is → ∀ (j r : Nat) (E : yD), j < 1000 → (.inl ((2, j, 0, []), r, E) : yIt) ∈ is → y_hasR cw r ∧ y_in E (z_b (y_row cw r j))
  | [], _, _, _, _, _, _, hm => by cases hm
  | .inl e :: is, gs, ⟨x, y, h1, h2, h3, h4⟩, j, r, E, hj, hm => by
    rcases List.mem_cons.mp hm with hm | hm
    · have hm := Sum.inl.inj hm
      subst hm
      obtain ⟨z, z1, z2⟩ := h1
      have z1 : z = nI j := z1
      have z2 : x = z := z2
      obtain ⟨a, cA, len, f, _, g2, _, g4⟩ := h2
      have g4 : y = f x.toNatClampNeg := g4
      subst z2
      subst z1
      rw [dni_cl (by omega)] at g4
      subst g4
      exact ⟨⟨a, cA, len, f, g2⟩, by rw [y_row_eq g2]; exact h3⟩
    · exact lw_AI h4 j r E hj hm
  | .inr e :: is, gs, ⟨x, y, h1, h2, h3, h4⟩, j, r, E, hj, hm => by
    rcases List.mem_cons.mp hm with hm | hm
    · cases hm
    · exact lw_AI h4 j r E hj hm
theorem lwIt_mem : ∀ j, j < 8 → ((.inl ((2, j, 0, []), 80, [(2147483653, 2147483653)]) : yIt) ∈ lwItC ∧ (.inl ((2, j, 0, []), 81, [(2147483648, 2147483648)]) : yIt) ∈ lwItC) ∧ (.inl ((2, j, 0, []), 194, [(2147483653, 2147483653)]) : yIt) ∈ lwItC ∧ (.inl ((2, j, 0, []), 195, [(2147483648, 2147483648)]) : yIt) ∈ lwItC := by
  intro j hj
  rcases (by omega : j = 0 ∨ j = 1 ∨ j = 2 ∨ j = 3 ∨ j = 4 ∨ j = 5 ∨ j = 6 ∨ j = 7) with rfl | rfl | rfl | rfl | rfl | rfl | rfl | rfl
  · exact ⟨⟨List.mem_of_getElem? (i := 0) rfl, List.mem_of_getElem? (i := 8) rfl⟩, List.mem_of_getElem? (i := 16) rfl, List.mem_of_getElem? (i := 24) rfl⟩
  · exact ⟨⟨List.mem_of_getElem? (i := 1) rfl, List.mem_of_getElem? (i := 9) rfl⟩, List.mem_of_getElem? (i := 17) rfl, List.mem_of_getElem? (i := 25) rfl⟩
  · exact ⟨⟨List.mem_of_getElem? (i := 2) rfl, List.mem_of_getElem? (i := 10) rfl⟩, List.mem_of_getElem? (i := 18) rfl, List.mem_of_getElem? (i := 26) rfl⟩
  · exact ⟨⟨List.mem_of_getElem? (i := 3) rfl, List.mem_of_getElem? (i := 11) rfl⟩, List.mem_of_getElem? (i := 19) rfl, List.mem_of_getElem? (i := 27) rfl⟩
  · exact ⟨⟨List.mem_of_getElem? (i := 4) rfl, List.mem_of_getElem? (i := 12) rfl⟩, List.mem_of_getElem? (i := 20) rfl, List.mem_of_getElem? (i := 28) rfl⟩
  · exact ⟨⟨List.mem_of_getElem? (i := 5) rfl, List.mem_of_getElem? (i := 13) rfl⟩, List.mem_of_getElem? (i := 21) rfl, List.mem_of_getElem? (i := 29) rfl⟩
  · exact ⟨⟨List.mem_of_getElem? (i := 6) rfl, List.mem_of_getElem? (i := 14) rfl⟩, List.mem_of_getElem? (i := 22) rfl, List.mem_of_getElem? (i := 30) rfl⟩
  · exact ⟨⟨List.mem_of_getElem? (i := 7) rfl, List.mem_of_getElem? (i := 15) rfl⟩, List.mem_of_getElem? (i := 23) rfl, List.mem_of_getElem? (i := 31) rfl⟩
/-- behind clear -/
theorem lwR_clr {n0 : Nat} {lv : List (Nat × Value)} {cw cw' : va_W} (hs : y_same ySh.length ywLc cw cw') (h : lwR cw) (hI : y_AI n0 lv cw' [] lwItC) : lwR cw' := by
  obtain ⟨h1, h2⟩ := h
  have hn : ∀ r ∈ [83, 84, 85, 86, 197, 198, 199, 200], r < ySh.length ∧ r ∉ ywLc.2.1 ∧ r ∈ lwR4 := by decide +kernel
  have k : ∀ r ∈ [83, 84, 85, 86, 197, 198, 199, 200], y_hasR cw' r ∧ y_row cw' r = y_row cw r := fun r hr => lw_rowS hs (hn r hr).1 (hn r hr).2.1 (h1 r (hn r hr).2.2)
  have a1 := fun (j : Nat) (hj : j < 8) => lw_AI hI j 80 _ (by omega) (lwIt_mem j hj).1.1
  have a2 := fun (j : Nat) (hj : j < 8) => lw_AI hI j 81 _ (by omega) (lwIt_mem j hj).1.2
  have a3 := fun (j : Nat) (hj : j < 8) => lw_AI hI j 194 _ (by omega) (lwIt_mem j hj).2.1
  have a4 := fun (j : Nat) (hj : j < 8) => lw_AI hI j 195 _ (by omega) (lwIt_mem j hj).2.2
  have m : ∀ (k : Nat) (r : Nat), [83, 84, 85, 86, 197, 198, 199, 200][k]? = some r → r ∈ [83, 84, 85, 86, 197, 198, 199, 200] := fun k r h => List.mem_of_getElem? h
  have e : ∀ (u v n : Nat) (E : yD) (i : Nat), lwRP[i]? = some (u, v, n, E) → u ∈ [83, 84, 85, 86, 197, 198, 199, 200] → v ∈ [83, 84, 85, 86, 197, 198, 199, 200] → ∀ j, j < n → y_row cw' u j = y_row cw' v j ∧ y_in E (z_b (y_row cw' u j)) := fun u v n E i h3 h4 h5 j hj => by
    rw [(k u h4).2, (k v h5).2]
    exact h2 (u, v, n, E) (List.mem_of_getElem? h3) j hj
  refine ⟨y_forall (a1 0 (by decide)).1 <| y_forall (a2 0 (by decide)).1 <| y_forall (k 83 (m 0 83 rfl)).1 <| y_forall (k 84 (m 1 84 rfl)).1 <| y_forall (k 85 (m 2 85 rfl)).1 <| y_forall (k 86 (m 3 86 rfl)).1 <| y_forall (a3 0 (by decide)).1 <| y_forall (a4 0 (by decide)).1 <| y_forall (k 197 (m 4 197 rfl)).1 <| y_forall (k 198 (m 5 198 rfl)).1 <| y_forall (k 199 (m 6 199 rfl)).1 <| y_forall (k 200 (m 7 200 rfl)).1 y_fornil, y_forall (fun j hj => ?_) <| y_forall (fun j hj => ?_) <| y_forall (e 83 197 12 _ 2 rfl (m 0 83 rfl) (m 4 197 rfl)) <| y_forall (e 84 198 96 _ 3 rfl (m 1 84 rfl) (m 5 198 rfl)) <| y_forall (e 85 199 96 _ 4 rfl (m 2 85 rfl) (m 6 199 rfl)) <| y_forall (e 86 200 96 _ 5 rfl (m 3 86 rfl) (m 7 200 rfl)) y_fornil⟩
  · have hj : j < 8 := hj
    have b1 := y_in_pt (a1 j hj).2
    have b2 := y_in_pt (a3 j hj).2
    show y_row cw' 80 j = y_row cw' 194 j ∧ y_in [(2147483648, 2147483708)] (z_b (y_row cw' 80 j))
    exact ⟨(z_beq _ _).mpr (by rw [b1, b2]), y_in_iv (by omega) (by omega)⟩
  · have hj : j < 8 := hj
    have b1 := y_in_pt (a2 j hj).2
    have b2 := y_in_pt (a4 j hj).2
    show y_row cw' 81 j = y_row cw' 195 j ∧ y_in [(2147483648, 2147483657)] (z_b (y_row cw' 81 j))
    exact ⟨(z_beq _ _).mpr (by rw [b1, b2]), y_in_iv (by omega) (by omega)⟩
section LS
variable {l : Launch} {D : va_G}
theorem lwCs : ∀ (n : Nat) (cn : yCN), (ytbL ywLs).2.2.2.2.1[n]? = some cn → (y_rm cn.1).frames < 4000 → y_wle (ytbL ywLs) cn.2.2.2.2 = true → y_Con ztb znw zcls l D (fun cw => y_kc cn.2.2.2.2 = true → lwR cw) (ytbL ywLs) cn := by
  intro n cn h _ hw
  have hk : y_kc cn.2.2.2.2 = false := by
    cases hk : y_kc cn.2.2.2.2 with
    | false => rfl
    | true =>
      obtain ⟨q, q1, q2, q3⟩ := lw_kc hk
      have := List.all_eq_true.mp (by decide +kernel : (ywLs.2.1.all fun q => !(decide (900 ≤ q) && decide (q ≤ 999))) = true) q ((y_wle_ok hw).2.1 q q1)
      rw [decide_eq_true q2, decide_eq_true q3] at this
      cases this
  have h : (ycs ++ [ycLd2, ycCl3, ycXC2])[n]? = some cn := h
  by_cases hn : n < ycs.length
  · rw [List.getElem?_append_left hn] at h
    have hin := List.mem_of_getElem? h
    have hiff := yKm_iff (w := ywLs) (K := yKTt) (y_wle_ok hw).2.1 (yMB_ok (m := 992) (by decide +kernel) (Or.inl rfl))
    have h0 := y_Con_K hiff (yCon' (l := l) (D := D) hin)
    refine y_Con_tb (tb := ytb yw00) rfl rfl rfl ?_
    exact y_Con_K (K := fun cw => y_kc cn.2.2.2.2 = true → yKTt cw) (fun cw => ⟨fun _ z => (by rw [hk] at z; cases z), fun _ z => (by rw [hk] at z; cases z)⟩) h0
  · rw [List.getElem?_append_right (by omega)] at h
    have hm := List.mem_of_getElem? h
    rcases List.mem_cons.mp hm with hm | hm
    · subst hm
      exact absurd hk (by decide +kernel)
    · rcases List.mem_cons.mp hm with hm | hm
      · subst hm
        exact absurd hk (by decide +kernel)
      · have hm := List.mem_singleton.mp hm
        subst hm
        exact y_Con_K (K := yKT) (fun cw => ⟨fun _ z => absurd z (by decide +kernel), fun _ => trivial⟩) (y_Con_tb rfl rfl rfl yXC2)
end LS
