-- decoded instructions
def y_dcd (code : ByteArray) (pc : Nat) (i : Jvm.ClassFile.Instr) (n : Nat) : Bool := match decode code pc with
  | .ok r => and (decide (r.1 = i)) (decide (r.2 = n))
  | .error _ => false
theorem y_dcd_ok {code : ByteArray} {pc : Nat} {i : Jvm.ClassFile.Instr} {n : Nat} (h : y_dcd code pc i n = true) : decode code pc = .ok (i, n) := by
  unfold y_dcd at h
  cases hd : decode code pc with
  | error e => rw [hd] at h; cases h
  | ok r =>
    rw [hd] at h
    obtain ⟨h1, h2⟩ := z_and h
    obtain ⟨a, b⟩ := r
    have h1 : a = i := of_decide_eq_true h1
    have h2 : b = n := of_decide_eq_true h2
    rw [h1, h2]
theorem yAE : ∀ cm ∈ ymsE, y_okM ztb zcls cm ∧ ∀ x ∈ y_cd cm, y_okE ztb znw zcls (ytbE yw00) cm x = true := y_forall ⟨yo_yme0, List.all_eq_true.mp yq_yme0⟩ <| y_forall ⟨yo_yme1, List.all_eq_true.mp yq_yme1⟩ <| y_forall ⟨yo_yme2, List.all_eq_true.mp yq_yme2⟩ <| y_forall ⟨yo_yme3, List.all_eq_true.mp yq_yme3⟩ <| y_forall ⟨yo_yme4, List.all_eq_true.mp yq_yme4⟩ <| y_fornil
theorem yAllE (w : yWr) : y_All ztb znw zcls zzty zzdv (ytbE w) := by
  refine ⟨(yAll w).1, (yAll w).2.1, fun n cm h => ?_, fun n c h => (yAll w).2.2.2 n c h⟩
  have h : (yms ++ ymsE)[n]? = some cm := h
  by_cases hn : n < yms.length
  · rw [List.getElem?_append_left hn] at h
    obtain ⟨h1, h2⟩ := (yAll w).2.2.1 n cm h
    exact ⟨h1, fun x hx => y_okE_ext (h2 x hx)⟩
  · rw [List.getElem?_append_right (by omega)] at h
    exact yAE cm (List.mem_of_getElem? h)
-- a new train, by the first machine
def zTr0 : zAE := .inl (7, zv7)
def zTr1 : List zAE := [.inl (7, [.inl 0, .inl 0, .inl 0, .inl 0, .inl 0, .inl 0, .inl 0, .inl 0, .inl 0, .inl 0, .inl 0, z_rf 1, .inl 0]), .inr (0, 48, [])]
noncomputable def zTrK : zK := fun _ r w => match r with
  | none => z_eqW w zTr1
  | some _ => false
theorem zTr : z_ev zcls zzty zzdv zms 1000 z_l0 zmT (z_cd zmT) 0 (z_en [z_rf 0] 0) [] 0 0 [] [zTr0] zTrK = true := by decide +kernel
def zTrF (k : Nat) (t : yT) : Bool := match t with
  | .inr (.inr 2) => Nat.beq k 1
  | _ => false
theorem zTrW : zy_W zTrF zTr1 [yTrn, yTrw] = true := by decide +kernel
/-- cells made by a call that sees one of them alone, beside all the others -/
theorem y_joinW {D : va_G} {cl : List vw_C} {A : Nat → Prop} {cw cwz : va_W} {x : Nat × va_E} {H0 H1 H2 : Heap} {locs locs2 : List Loc} (hP : va_P D cl (cw ++ [x]) H1) (hD : va_D A (cw ++ [x])) (hS : va_S A H0 H1 locs) (hA0 : ∀ q, H0.size ≤ q → A q) (hz : H1.size ≤ H2.size) (hk : ∀ q : Nat, q < H1.size → ¬ va_A [x] H1.size q → H2[q]? = H1[q]?) (hPz : va_P D cl cwz H2) (hDz : va_D (va_A [x] H1.size) cwz) (hl : ∀ q ∈ locs2, q ∈ locs ∨ va_A [x] H1.size q.base) :
    va_P D cl (cw ++ cwz) H2 ∧ va_D A (cw ++ cwz) ∧ va_S A H0 H2 locs2 := by
  have hx : (cw ++ [x])[cw.length]? = some x := by simp
  have hin : ∀ (k : Nat) (q : Nat × va_E), cw[k]? = some q → (cw ++ [x])[k]? = some q := fun k q h => by rw [List.getElem?_append_left (List.getElem?_eq_some_iff.mp h).1]; exact h
  have hfree : ∀ q, va_A [x] H1.size q → A q := by
    intro q h
    rcases h with ⟨k, e, h⟩ | h
    · have e1 : x = (q, e) := by
        cases k with
        | zero => exact Option.some.inj h
        | succ k => simp at h
      have := hD.2 _ _ hx
      rw [e1] at this
      exact this
    · exact hA0 q (Nat.le_trans hS.1 h)
  have hnot : ∀ (k : Nat) (q : Nat × va_E), cw[k]? = some q → ¬ va_A [x] H1.size q.1 := by
    intro k q h z
    have hlt := (hP k q (hin k q h)).lt
    rcases z with ⟨k', e, z⟩ | z
    · have e1 : x = (q.1, e) := by
        cases k' with
        | zero => exact Option.some.inj z
        | succ k' => simp at z
      have := hD.1 k cw.length q x (hin k q h) hx (by rw [e1])
      have := (List.getElem?_eq_some_iff.mp h).1
      omega
    · omega
  refine ⟨fun k q h => ?_, ⟨fun i j p q h1 h2 e => ?_, fun k q h => ?_⟩, ⟨Nat.le_trans hS.1 hz, fun q h1 h2 => ?_, fun q h => ?_⟩⟩
  · by_cases hkl : k < cw.length
    · rw [List.getElem?_append_left hkl] at h
      exact (hP k q (hin k q h)).kept (hk q.1 (hP k q (hin k q h)).lt (hnot k q h))
    · rw [List.getElem?_append_right (by omega)] at h
      exact hPz _ q h
  · by_cases hi : i < cw.length
    · rw [List.getElem?_append_left hi] at h1
      by_cases hj : j < cw.length
      · rw [List.getElem?_append_left hj] at h2
        exact hD.1 i j p q (hin i p h1) (hin j q h2) e
      · rw [List.getElem?_append_right (by omega)] at h2
        have := hDz.2 _ q h2
        rw [← e] at this
        exact absurd this (hnot i p h1)
    · rw [List.getElem?_append_right (by omega)] at h1
      by_cases hj : j < cw.length
      · rw [List.getElem?_append_left hj] at h2
        have := hDz.2 _ p h1
        rw [e] at this
        exact absurd this (hnot j q h2)
      · rw [List.getElem?_append_right (by omega)] at h2
        have := hDz.1 _ _ p q h1 h2 e
        omega
  · by_cases hkl : k < cw.length
    · rw [List.getElem?_append_left hkl] at h
      exact hD.2 k q (hin k q h)
    · rw [List.getElem?_append_right (by omega)] at h
      exact hfree _ (hDz.2 _ q h)
  · rw [hk q (Nat.lt_of_lt_of_le h1 hS.1) (fun z => h2 (hfree q z))]
    exact hS.2.1 q h1 h2
  · rcases hl q h with h | h
    · exact hS.2.2 q h
    · exact hfree _ h
/-- shapes of all cells when more cells have come -/
theorem y_ET_up {tb : yTb} {cls : List vw_C} {ad ad' : List Nat} {tg tg' : List yC} {tys tys' : List (ClassId × FieldType)} (ha : z_le ad ad') (ht : ∀ (p : Nat) (t : yC), tg[p]? = some t → tg'[p]? = some t) (hy : ∀ (k : Nat) (q : ClassId × FieldType), tys[k]? = some q → ∃ k' : Nat, tys'[k']? = some q) {c : yC} {x : va_E} (h : y_ET tb cls ad tg tys c x) : y_ET tb cls ad' tg' tys' c x := by
  have hv : ∀ (t : yT) (v : Value), y_tv tb ad tg t v → y_tv tb ad' tg' t v := fun t v z => y_tv_mono ha ht z
  match c, x, h with
  | .inl c, .inr o, ⟨h1, h2⟩ =>
    refine ⟨h1, ?_⟩
    have : ∀ (ts : List yT) (vs : List Value), y_TL (y_tv tb ad tg) ts vs → y_TL (y_tv tb ad' tg') ts vs := by
      intro ts
      induction ts with
      | nil => intro vs z; cases vs with | nil => exact trivial | cons _ _ => exact z.elim
      | cons t ts ih => intro vs z; cases vs with | nil => exact z.elim | cons v vs => exact ⟨hv t v z.1, ih vs z.2⟩
    exact this _ _ h2
  | .inr c, .inl o, ⟨h1, ⟨t0, h2⟩, h3⟩ =>
    refine ⟨h1, hy t0 _ h2, ?_⟩
    obtain ⟨kd, n, t⟩ := c
    match kd, t, h3 with
    | 0, t, ⟨g, e, z⟩ => exact ⟨g, e, fun j hj => hv _ _ (z j hj)⟩
    | 1, t, ⟨g, e, z⟩ => exact ⟨g, e, fun j hj => hv _ _ (z j hj)⟩
    | 2, t, ⟨g, e, z⟩ => exact ⟨g, e, fun j hj => hv _ _ (z j hj)⟩
    | 3, t, z => exact z
    | kd + 4, .inr (.inl ks), ⟨g, e, z⟩ => exact ⟨g, e, fun j hj => by
        obtain ⟨k, a, z1, z2, z3⟩ := z j hj
        exact ⟨k, a, z1, ha k a z2, z3⟩⟩
    | kd + 4, .inl E, ⟨g, e, z⟩ => exact ⟨g, e, fun j hj => hv _ _ (z j hj)⟩
    | kd + 4, .inr (.inr q), ⟨g, e, z⟩ => exact ⟨g, e, fun j hj => hv _ _ (z j hj)⟩
  | .inl _, .inl _, h => exact h.elim
  | .inr _, .inr _, h => exact h.elim
