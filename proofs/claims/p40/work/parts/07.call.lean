theorem z_good {tb : zTB} {x : Jvm.Cond} (h : x ∈ z_G tb) : (x.onTables && x.keeps) = true ∨ ∃ ty, x = .arrayClass ty := good_of_word (List.mem_filter.mp h).2
theorem z_goodIn {tb : zTB} {cm : zMR} (h : Jvm.Cond.code (z_y cm) (z_cc cm) (z_mL cm) (z_rt cm) ∈ z_G tb) : GoodIn (z_G tb) (z_ws tb cm) := by
  intro x hx
  rcases List.mem_cons.mp hx with rfl | hx
  · exact ⟨h, z_good h⟩
  · exact ⟨hx, z_good hx⟩
theorem z_goodV {tb : zTB} {cm : zMR} {own : String} {idx : Nat} (h : Jvm.Cond.code (z_y cm) (z_cc cm) (z_mL cm) (z_rt cm) ∈ z_G tb) (h1 : Jvm.Cond.methodLink own idx (z_y cm) ∈ z_G tb) (h2 : Jvm.Cond.instanceMethod (z_y cm) ∈ z_G tb) (h3 : Jvm.Cond.selects (z_y cm).cls (z_y cm) (z_y cm) ∈ z_G tb) (h4 : Jvm.Cond.initialized (z_y cm).cls ∈ z_G tb) : GoodIn (z_G tb) (wsV own idx (z_y cm).cls (z_y cm) (z_ws tb cm)) := by
  intro x hx
  rcases List.mem_append.mp hx with hx | hx
  · have hm : x ∈ z_G tb := by
      simp only [List.mem_cons, List.not_mem_nil, or_false] at hx
      rcases hx with rfl | rfl | rfl | rfl <;> assumption
    exact ⟨hm, z_good hm⟩
  · exact z_goodIn h x hx
theorem z_goodS {tb : zTB} {cm : zMR} {own : String} {idx : Nat} (h : Jvm.Cond.code (z_y cm) (z_cc cm) (z_mL cm) (z_rt cm) ∈ z_G tb) (h1 : Jvm.Cond.methodLink own idx (z_y cm) ∈ z_G tb) (h2 : Jvm.Cond.static (z_y cm) ∈ z_G tb) (h4 : Jvm.Cond.initialized own ∈ z_G tb) : GoodIn (z_G tb) (wsS own idx (z_y cm) (z_ws tb cm)) := by
  intro x hx
  rcases List.mem_append.mp hx with hx | hx
  · have hm : x ∈ z_G tb := by
      simp only [List.mem_cons, List.not_mem_nil, or_false] at hx
      rcases hx with rfl | rfl | rfl <;> assumption
    exact ⟨hm, z_good hm⟩
  · exact z_goodIn h x hx
/-- what z_okM says -/
theorem z_okM_ok {tb : zTB} {cls : List vw_C} {mr : zMR} {p1 p2 p3 p4 : Nat} (hcw : Jvm.Cond.code (z_y mr) (z_cc mr) (z_mL mr) (z_rt mr) ∈ z_G tb) (h : z_okM tb cls mr p1 p2 p3 p4 = true) : Jvm.Cond.code (z_y mr) (z_cc mr) (z_mL mr) (z_rt mr) ∈ z_G tb ∧ Jvm.Cond.initialized (z_y mr).cls ∈ z_G tb ∧ ((z_y mr).cls ≠ "java/lang/invoke/MethodHandle" ∧ (z_y mr).cls ≠ "java/lang/invoke/VarHandle") ∧ (z_ci mr < 100 → (Jvm.Cond.instanceMethod (z_y mr) ∈ z_G tb ∧ ((z_y mr).name = "<init>" ∨ Jvm.Cond.selects (z_y mr).cls (z_y mr) (z_y mr) ∈ z_G tb)) ∧ ∃ q, cls[z_ci mr]? = some q ∧ q.1 = (z_y mr).cls) ∧ (100 ≤ z_ci mr → Jvm.Cond.static (z_y mr) ∈ z_G tb) := by
  unfold z_okM at h
  obtain ⟨h1, h2⟩ := z_and h
  obtain ⟨h3, h4⟩ := z_and h1
  obtain ⟨h5, h6⟩ := z_and h3
  obtain ⟨h7, h8⟩ := z_and h4
  obtain ⟨h9, h10⟩ := z_and h8
  refine ⟨hcw, z_w_ok h6, ⟨of_decide_eq_true h9, of_decide_eq_true h10⟩, fun hc => ?_, fun hc => ?_⟩
  · rw [show Nat.blt (z_ci mr) 100 = true from by unfold Nat.blt; rw [Nat.ble_eq]; omega, cond_true] at h2
    obtain ⟨h11, h12⟩ := z_and h2
    obtain ⟨a1, a2⟩ := z_and h11
    rw [Bool.or_eq_true] at a2
    refine ⟨⟨z_w_ok a1, a2.imp of_decide_eq_true z_w_ok⟩, ?_⟩
    have h13 := of_decide_eq_true h12
    cases hq : cls[z_ci mr]? with
    | none => rw [hq] at h13; cases h13
    | some q => rw [hq] at h13; exact ⟨q, rfl, Option.some.inj h13⟩
  · rw [show Nat.blt (z_ci mr) 100 = false from by rw [← Bool.not_eq_true]; unfold Nat.blt; rw [Nat.ble_eq]; omega, cond_false] at h2
    exact z_w_ok h2
section ZC
variable {p : Program} {l : Launch} {e : Env} {R : Room} {s : State} {m : MethodId} {args : Array Value} {below : List Frame} {meth : Method} {c : Code} {H : Heap} {locs : List Loc} {cells slots : Nat} {Q : State → Prop}
theorem z_goon {pc : Nat} {ls : Array Slot} {st0 rest : List Value} {mc ms : Nat} {free : Addr → Prop} {Qa : State → Outcome → State → Prop} (hr : va_Run p l e R s m args below meth c H locs cells slots mc ms (F0 m pc ls st0) rest Qa free)
    (kk : ∀ (v : Option Value) (st₀ t : State) (H1 : Heap) (locs1 : List Loc), st₀.heap = H → t.heap = H1 → s.vm.Alike t.vm → Qa st₀ (.returned v) t → (∀ q ∈ locs1, q ∈ locs ∨ free q.base) → W p l e R s m args below meth c H1 locs1 (cells + mc) (slots + ms) Q (F0 m (pc + 3) ls (v.toList ++ rest))) : W p l e R s m args below meth c H locs cells slots Q (F0 m pc ls st0) := by
  intro T hT X
  obtain ⟨v, st₀, t, T', L, h0, X', hL, e1, e2, hq, st⟩ := hr T hT X
  obtain ⟨t2, a1, b1⟩ := kk v st₀ t T'.heap (locs ++ L) h0 e1.symm (by rw [← e2]; exact X'.warmed.alike) hq (fun q h => (List.mem_append.mp h).imp id (hL q)) T' rfl X'
  exact ⟨t2, st t2 a1, b1⟩
end ZC
section ZD
variable {tb : zTB} {nw : List Jvm.Cond} {cls : List vw_C} {zty : List (Nat → FieldType)} {zdv : List (List zAV)} {ms : List zMR} {l : Launch} {D : va_G} {sg : Nat → Int32} {b n : Nat}
variable {p : Program} {e : Env} {R : Room} {s : State} {m : MethodId} {args : Array Value} {below : List Frame} {meth : Method} {c : Code} {A : Nat → Prop} {ad0 : List Nat} {lx : zLX} {mr : zMR} {Q : State → Prop}
variable {H : Heap} {locs : List Loc} {cw : va_W} {tys : List (ClassId × FieldType)} {ls : Array Slot} {cst : List Value} {pc : Nat} {lo : List (Nat × zAV)} {st : List zAV} {ce sl : Nat} {env : zEnv} {w : List zAE}
set_option maxHeartbeats 4000000 in
theorem z_call_ok (hA : z_All tb nw cls zty zdv ms) (hS : z_Snd tb nw cls zty zdv ms l D sg b n) (hF : z_Fix tb nw cls ms sg b p R s m args meth c A lx mr) (hSt : z_St cls D sg b s A ad0 H locs w env cw tys) {x1 : Nat} {cm : zMR} (hcm : ms[x1]? = some cm) {as t : List zAV} {av ct : List Value} {cont : zEnv → List zAV → Nat → Nat → List zAE → Bool}
    (hev : z_call (z_ev cls zty zdv ms n) mr cm as t ce sl env w cont = true) (hsr : z_SR (z_g sg (cw.map Prod.fst) b) as av) (hst : z_SR (z_g sg (cw.map Prod.fst) b) t ct)
    (hrun : (ct.map fun v => v.category).sum ≤ 8 → ((z_rm cm).frames + 1 ≤ R.frames ∧ 8 + (z_mL cm + 11) + (z_rm cm).locals ≤ R.locals) → (ce + (z_rm cm).cells ≤ R.cells ∧ sl + (z_rm cm).slots ≤ R.slots) → PreS s H (z_Pc nw cls D cw tys H.size av) av → ∀ k : zK, Met l (z_y cm) (z_ws tb cm) (z_rm cm) (z_Pc nw cls D cw tys H.size av) (z_Q cls D sg b cw H.size k) (z_rm cm).cells (z_rm cm).slots (va_A cw H.size) → va_Run p l e R s m args below meth c H locs ce sl (z_rm cm).cells (z_rm cm).slots (F0 m pc ls cst) ct (z_Q cls D sg b cw H.size k av.toArray) (va_A cw H.size))
    (kk : ∀ (env' : zEnv) (t' : List zAV) (w' : List zAE) (H1 : Heap) (locs1 : List Loc) (cw' : va_W) (tys' : List (ClassId × FieldType)) (ct' : List Value), cont env' t' (ce + (z_rm cm).cells) (sl + (z_rm cm).slots) w' = true → z_St cls D sg b s A ad0 H1 locs1 w' env' cw' tys' → z_SR (z_g sg (cw'.map Prod.fst) b) t' ct' → z_le (cw.map Prod.fst) (cw'.map Prod.fst) → ce + (z_rm cm).cells ≤ (z_rm mr).cells → sl + (z_rm cm).slots ≤ (z_rm mr).slots → W p l e R s m args below meth c H1 locs1 (ce + (z_rm cm).cells) (sl + (z_rm cm).slots) Q (F0 m (pc + 3) ls ct')) : W p l e R s m args below meth c H locs ce sl Q (F0 m pc ls cst) := by
  obtain ⟨h1, h2⟩ := z_cond hev
  rw [z_frc_eq, z_frc_eq] at h2
  obtain ⟨g1, g2⟩ := z_and h1
  obtain ⟨g3, g4⟩ := z_and g1
  obtain ⟨g5, g6⟩ := z_and g3
  obtain ⟨g7, g8⟩ := z_and g6
  obtain ⟨g9, g10⟩ := z_and g2
  obtain ⟨g11, g12⟩ := z_and g9
  obtain ⟨g13, g14⟩ := z_and g10
  have hR : R = z_rm mr := hF.2.2.2.2.2.2.1
  have hN : z_NW nw s := hF.2.2.2.2.2.2.2.1
  have hA0 : ∀ q, s.heap.size ≤ q → A q := hF.2.2.2.2.2.2.2.2.1
  obtain ⟨hK, hP, hD, hS0, hw, he, hle⟩ := hSt
  have hM := z_met (sz := H.size) hA hS hcm g5 hsr (by rw [← z_len_eq]; exact z_le_of g4) he hw h2
  have hcat : (ct.map fun v => v.category).sum ≤ 8 := by
    rw [z_SR_cat (fun a v h hg => z_c1_ok h hg) g7 hst, ← z_SR_len hst, ← z_len_eq]
    exact z_le_of g8
  have hpre : PreS s H (z_Pc nw cls D cw tys H.size av) av := ⟨fun a U g mk q => by
      obtain ⟨q0, q1, qP, qK, qD, qN⟩ := q
      exact ⟨q0, q1, qP, va_K.moved (u := U) (U := U.calling g mk a) (Vm.Alike.refl U.vm) qK, qD, z_NW_same rfl qN⟩,
    fun U hU hW => ⟨rfl, by rw [hU], by rw [hU]; exact hP, va_K.moved hW.alike hK, hD.weaken (fun _ _ _ _ => trivial), z_NW_warm hW hN⟩⟩
  refine z_goon (hrun hcat (by rw [hR]; exact ⟨z_le_of g11, z_le_of g12⟩) (by rw [hR]; exact ⟨z_le_of g13, z_le_of g14⟩) hpre _ hM) ?_
  intro v st₀ t1 H1 locs1 e0 e1 hvm hq hloc
  obtain ⟨⟨env', r, w', cw', tys', rv, q1, q2, q3, q4, q5, q6, q7, q8, q9⟩, hz, hk⟩ := hq
  have q1 : v = rv := by cases q1; rfl
  subst q1
  rw [e0] at hz hk
  have hfree : ∀ q, va_A cw H.size q → A q := by
    intro q h
    rcases h with ⟨k, x, h⟩ | h
    · exact hD.2 k _ h
    · exact hA0 q (Nat.le_trans hS0.1 h)
  have hst' : z_SR (z_g sg (cw'.map Prod.fst) b) t ct := z_SR_mono (fun a v => z_g_mono q5) hst
  have hSt' : z_St cls D sg b s A ad0 H1 locs1 w' env' cw' tys' := by
    refine ⟨va_K.moved hvm.symm q7, by rw [← e1]; exact q6, q8.weaken (fun k q _ h => hfree q.1 h), ⟨Nat.le_trans hS0.1 (by rw [← e1]; exact hz), fun q h1 h2 => ?_, fun q h => ?_⟩, q9, q4, fun k a h => q5 k a (hle k a h)⟩
    · rw [← e1, hk q (Nat.lt_of_lt_of_le h1 hS0.1) (fun z => h2 (hfree q z))]
      exact hS0.2.1 q h1 h2
    · rcases hloc q h with h | h
      · exact hS0.2.2 q h
      · exact hfree _ h
  match r, v, q2, q3 with
  | none, none, q2, _ => exact kk env' t w' H1 locs1 cw' tys' ct q2 hSt' hst' q5 (z_le_of g13) (z_le_of g14)
  | some a, some x, q2, q3 => exact kk env' (a :: t) w' H1 locs1 cw' tys' (x :: ct) q2 hSt' ⟨q3, hst'⟩ q5 (z_le_of g13) (z_le_of g14)
  | none, some _, _, q3 => exact q3.elim
  | some _, none, _, q3 => exact q3.elim
end ZD
