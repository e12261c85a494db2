section YG
variable {wt : zTB} {nw : List Jvm.Cond} {cls : List vw_C} {hn : yHn} {tb : yTb} {l : Launch} {D : va_G} {K : va_W → Prop} {b : Nat → Nat} {fu : Nat}
variable {p : Program} {e : Env} {R : Room} {s : State} {m : MethodId} {args : Array Value} {below : List Frame} {meth : Method} {c : Code} {A : Nat → Prop} {cw0 : va_W} {ρ0 : yRo} {ce sl : Nat} {mr : yMR} {Q : State → Prop}
variable {ρ : yRo} {H : Heap} {locs : List Loc} {cw : va_W} {tys : List (ClassId × FieldType)} {ls : Array Slot} {cst : List Value} {pc n : Nat} {env : yEnv} {h : yHp}
theorem y_PreS (hF : y_Fix wt nw b cls tb p R s m args meth c A mr) (hSt : y_St cls D K tb b s A cw0 ρ H locs cw tys n env h) (av : List Value) : PreS s H (y_Pc nw b cls D cw tys H.size av) av := by
  obtain ⟨hK, hP, hD, hS0, _⟩ := hSt
  have hN : y_NW nw b A s := hF.2.2.2.2.2.2.1
  have hA0 : ∀ q, s.heap.size ≤ q → A q := hF.2.2.2.2.2.2.2.1
  exact ⟨fun a U g mk q => by
      obtain ⟨q0, q1, qP, qK, qD, qN⟩ := q
      exact ⟨q0, q1, qP, va_K.moved (u := U) (U := U.calling g mk a) (Vm.Alike.refl U.vm) qK, qD, y_NW_call rfl rfl qN⟩,
    fun U hU hW => ⟨rfl, by rw [hU], by rw [hU]; exact hP, va_K.moved hW.alike hK, hD.weaken (fun _ _ _ _ => trivial), y_NW_warm hW hU hS0 hD hA0 hN⟩⟩
theorem y_call_ok (hF : y_Fix wt nw b cls tb p R s m args meth c A mr) (hSt : y_St cls D K tb b s A cw0 ρ H locs cw tys n env h) {X : va_W → List (ClassId × FieldType) → Option Value → Prop} {av ct : List Value}
    (hrun : va_Run p l e R s m args below meth c H locs ce sl 0 0 (F0 m pc ls cst) ct (y_Q cls D X cw H.size av.toArray) (va_A cw H.size))
    (kk : ∀ (H1 : Heap) (locs1 : List Loc) (cw' : va_W) (tys' : List (ClassId × FieldType)) (rv : Option Value), va_K D cls tys' s → va_P D cls cw' H1 → va_D A cw' → va_S A s.heap H1 locs1 → X cw' tys' rv → W p l e R s m args below meth c H1 locs1 ce sl Q (F0 m (pc + 3) ls (rv.toList ++ ct))) : W p l e R s m args below meth c H locs ce sl Q (F0 m pc ls cst) := by
  have hA0 : ∀ q, s.heap.size ≤ q → A q := hF.2.2.2.2.2.2.2.1
  obtain ⟨hK, hP, hD, hS0, _⟩ := hSt
  refine z_goon hrun ?_
  intro v st₀ t1 H1 locs1 e0 e1 hvm hq hloc
  obtain ⟨⟨cw', tys', rv, q1, q2, q3, q4, q5⟩, hz, hk⟩ := hq
  have q1 : v = rv := by cases q1; rfl
  subst q1
  rw [e0] at hz hk
  have hfree : ∀ q, va_A cw H.size q → A q := by
    intro q h
    rcases h with ⟨k, x, h⟩ | h
    · exact hD.2 k _ h
    · exact hA0 q (Nat.le_trans hS0.1 h)
  refine kk H1 locs1 cw' tys' v (va_K.moved hvm.symm q3) (by rw [← e1]; exact q2) (q4.weaken (fun k q _ h => hfree q.1 h)) ⟨Nat.le_trans hS0.1 (by rw [← e1]; exact hz), fun q h1 h2 => ?_, fun q h => ?_⟩ q5
  · rw [← e1, hk q (Nat.lt_of_lt_of_le h1 hS0.1) (fun z => h2 (hfree q z))]
    exact hS0.2.1 q h1 h2
  · rcases hloc q h with h | h
    · exact hS0.2.2 q h
    · exact hfree _ h
/-- facts that stay over a call -/
theorem y_sf_ok (wr : yWr) (fx : List yF) : ∃ fx', (∀ k : List yF → Bool, y_sf wr fx k = k fx') ∧ ∀ q ∈ fx', q ∈ fx ∧ (q.1 = 0 → (q.2.1, q.2.2.1) ∉ wr.1) ∧ (1 ≤ q.1 → wr.2.2 = false) := by
  induction fx with
  | nil => exact ⟨[], fun _ => rfl, fun q hq => by cases hq⟩
  | cons q fx ih =>
    obtain ⟨fx', h1, h2⟩ := ih
    have hcons : ∀ q' ∈ fx', q' ∈ q :: fx ∧ (q'.1 = 0 → (q'.2.1, q'.2.2.1) ∉ wr.1) ∧ (1 ≤ q'.1 → wr.2.2 = false) := fun q' hq' => ⟨List.mem_cons_of_mem _ (h2 q' hq').1, (h2 q' hq').2⟩
    obtain ⟨kd, i, f, v⟩ := q
    cases kd with
    | zero =>
      have e : ∀ k : List yF → Bool, y_sf wr ((0, i, f, v) :: fx) k = cond (y_fl (fun w r => or (and (Nat.beq w.1 i) (Nat.beq w.2 f)) r) false wr.1) (y_sf wr fx k) (y_sf wr fx (fun t => k ((0, i, f, v) :: t))) := fun _ => rfl
      cases hc : y_fl (fun w r => or (and (Nat.beq w.1 i) (Nat.beq w.2 f)) r) false wr.1 with
      | true => exact ⟨fx', fun k => by rw [e, hc, cond_true, h1], hcons⟩
      | false =>
        refine ⟨(0, i, f, v) :: fx', fun k => by rw [e, hc, cond_false, h1], fun q' hq' => ?_⟩
        rcases List.mem_cons.mp hq' with rfl | hq'
        · refine ⟨List.mem_cons_self, fun _ hm => ?_, fun z => absurd z (by show ¬ 1 ≤ 0; omega)⟩
          have hm : (i, f) ∈ wr.1 := hm
          have : ∀ l : List (Nat × Nat), (i, f) ∈ l → y_fl (fun w r => or (and (Nat.beq w.1 i) (Nat.beq w.2 f)) r) false l = true := by
            intro l
            induction l with
            | nil => intro z; cases z
            | cons w l ihl =>
              intro z
              show or (and (Nat.beq w.1 i) (Nat.beq w.2 f)) (y_fl _ false l) = true
              rw [Bool.or_eq_true]
              rcases List.mem_cons.mp z with z | z
              · left
                rw [← z]
                show and (Nat.beq i i) (Nat.beq f f) = true
                rw [Nat.beq_refl, Nat.beq_refl]
                rfl
              · exact Or.inr (ihl z)
          rw [this _ hm] at hc
          cases hc
        · exact hcons q' hq'
    | succ j =>
      have e : ∀ k : List yF → Bool, y_sf wr ((j + 1, i, f, v) :: fx) k = cond wr.2.2 (y_sf wr fx k) (y_sf wr fx (fun t => k ((j + 1, i, f, v) :: t))) := fun _ => rfl
      cases hc : wr.2.2 with
      | true => exact ⟨fx', fun k => by rw [e, hc, cond_true, h1], by rw [hc] at hcons; exact hcons⟩
      | false =>
        refine ⟨(j + 1, i, f, v) :: fx', fun k => by rw [e, hc, cond_false, h1], fun q' hq' => ?_⟩
        rcases List.mem_cons.mp hq' with rfl | hq'
        · exact ⟨List.mem_cons_self, fun z => absurd z (by show ¬ j + 1 = 0; omega), fun _ => rfl⟩
        · rw [hc] at hcons; exact hcons q' hq'
theorem y_mem_true {a : Nat} {ks : List Nat} (h : a ∈ ks) : y_mem a ks = true := by
  induction ks with
  | nil => cases h
  | cons c ks ih =>
    show or (Nat.beq a c) (y_mem a ks) = true
    rw [Bool.or_eq_true]
    rcases List.mem_cons.mp h with h | h
    · exact Or.inl ((z_nb _ _).mpr h)
    · exact Or.inr (ih h)
theorem y_sa_ok (wr : yWr) (ax : List yA) : ∃ ax', (∀ k : List yA → Bool, y_sa wr ax k = k ax') ∧ ∀ q ∈ ax', q ∈ ax ∧ (q.1 = 0 → q.2.1 ∉ wr.2.1) ∧ (1 ≤ q.1 → wr.2.2 = false) := by
  induction ax with
  | nil => exact ⟨[], fun _ => rfl, fun q hq => by cases hq⟩
  | cons q ax ih =>
    obtain ⟨ax', h1, h2⟩ := ih
    have hcons : ∀ q' ∈ ax', q' ∈ q :: ax ∧ (q'.1 = 0 → q'.2.1 ∉ wr.2.1) ∧ (1 ≤ q'.1 → wr.2.2 = false) := fun q' hq' => ⟨List.mem_cons_of_mem _ (h2 q' hq').1, (h2 q' hq').2⟩
    obtain ⟨kd, i, j, v⟩ := q
    cases kd with
    | zero =>
      have e : ∀ k : List yA → Bool, y_sa wr ((0, i, j, v) :: ax) k = cond (y_mem i wr.2.1) (y_sa wr ax k) (y_sa wr ax (fun t => k ((0, i, j, v) :: t))) := fun _ => rfl
      cases hc : y_mem i wr.2.1 with
      | true => exact ⟨ax', fun k => by rw [e, hc, cond_true, h1], hcons⟩
      | false =>
        refine ⟨(0, i, j, v) :: ax', fun k => by rw [e, hc, cond_false, h1], fun q' hq' => ?_⟩
        rcases List.mem_cons.mp hq' with rfl | hq'
        · refine ⟨List.mem_cons_self, fun _ hm => ?_, fun z => absurd z (by show ¬ 1 ≤ 0; omega)⟩
          have hm : i ∈ wr.2.1 := hm
          rw [y_mem_true hm] at hc
          cases hc
        · exact hcons q' hq'
    | succ jj =>
      have e : ∀ k : List yA → Bool, y_sa wr ((jj + 1, i, j, v) :: ax) k = cond wr.2.2 (y_sa wr ax k) (y_sa wr ax (fun t => k ((jj + 1, i, j, v) :: t))) := fun _ => rfl
      cases hc : wr.2.2 with
      | true => exact ⟨ax', fun k => by rw [e, hc, cond_true, h1], by rw [hc] at hcons; exact hcons⟩
      | false =>
        refine ⟨(jj + 1, i, j, v) :: ax', fun k => by rw [e, hc, cond_false, h1], fun q' hq' => ?_⟩
        rcases List.mem_cons.mp hq' with rfl | hq'
        · exact ⟨List.mem_cons_self, fun z => absurd z (by show ¬ jj + 1 = 0; omega), fun _ => rfl⟩
        · rw [hc] at hcons; exact hcons q' hq'
end YG
