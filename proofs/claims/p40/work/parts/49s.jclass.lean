-- journeys of the class: copyOption, isAhead, offer
abbrev xCop : yMR := xmr ⟨"RailwayHouse$Journeys", "copyOption", "(II)V"⟩ prog_3_method_13_code 3 none ⟨1, 0, 0, 60⟩ 1
abbrev xAhe : yMR := xmr ⟨"RailwayHouse$Journeys", "isAhead", "(IIII)Z"⟩ prog_3_method_12_code 5 (some .boolean) ⟨1, 0, 0, 60⟩ 1
abbrev xOff : yMR := xmr ⟨"RailwayHouse$Journeys", "offer", "(IIIJ)V"⟩ prog_3_method_11_code 10 none ⟨2, 0, 0, 84⟩ 1
def jxb (x : jO) : Prop := x.a < 20000 ∧ x.m < 100 ∧ x.f < 10000 ∧ x.c < 2 ^ 60
/-- an option in rows -/
def jre (V : Nat → Nat → Int32) (L : Nat → Nat → Int64) (k : Nat) (x : jO) : Prop := V 94 k = nI x.a ∧ V 95 k = nI x.m ∧ V 96 k = nI x.f ∧ L 97 k = nL x.c
def jcpV (V : Nat → Nat → Int32) (f t : Nat) : Nat → Nat → Int32 := xup (xup (xup V 94 t (V 94 f)) 95 t (V 95 f)) 96 t (V 96 f)
def jcpL (L : Nat → Nat → Int64) (f t : Nat) : Nat → Nat → Int64 := xupL L 97 t (L 97 f)
theorem jcp_n {V : Nat → Nat → Int32} {L : Nat → Nat → Int64} {f t k : Nat} {x : jO} (h : k ≠ t) : jre (jcpV V f t) (jcpL L f t) k x ↔ jre V L k x := by
  unfold jre jcpV jcpL
  simp [xup, xupL, upd, vp_updL, h]
theorem jcp_s {V : Nat → Nat → Int32} {L : Nat → Nat → Int64} {f t : Nat} {x : jO} : jre (jcpV V f t) (jcpL L f t) t x ↔ jre V L f x := by
  unfold jre jcpV jcpL
  simp [xup, xupL, upd, vp_updL]
theorem jcpV_n {V : Nat → Nat → Int32} {f t q : Nat} (h : ¬ (94 ≤ q ∧ q ≤ 96)) : jcpV V f t q = V q := by
  unfold jcpV
  rw [xup_n _ _ _ (by omega), xup_n _ _ _ (by omega), xup_n _ _ _ (by omega)]
theorem jcpL_n {L : Nat → Nat → Int64} {f t q : Nat} (h : q ≠ 97) : jcpL L f t q = L q := xupL_n _ _ _ h
section YC
variable {l : Launch} {D : va_G} {b : Nat → Nat} {cw : va_W} {tys : List (ClassId × FieldType)} {sz : Nat} {ad : Nat → Nat} {cI : Nat → ClassId} {V : Nat → Nat → Int32} {L : Nat → Nat → Int64}
set_option maxHeartbeats 1000000 in
theorem jM_cop {op : Int32} {u v : Nat} {rn ho he : Int32} (hT : xgT jI jJ cI tys) (hc : jW ad cI op u v rn ho he V L cw) {f t : Nat} (hf : f < 148) (ht : t < 148) : Met l (y_y xCop) (y_ws ztb xCop) (y_rm xCop) (y_Pc znw b zcls D cw tys sz [.ref (ad 93), .int (nI f), .int (nI t)]) (y_Q zcls D (fun cw' tys' rv => rv = none ∧ tys' = tys ∧ jW ad cI op u v rn ho he (jcpV V f t) (jcpL L f t) cw') cw sz) 0 0 (va_A cw sz) := by
  refine xMet (tb := ytb yw00) (mr := xCop) yo_ym20 (fun x hx => by cases hx) (Nat.le_of_ble_eq_true rfl) ?_
  intro p e s m below meth c Q ls hsz hF hs hl kv ki
  have hl : lv_has ls 3 [(0, .ref (ad 93)), (1, .int (nI f)), (2, .int (nI t))] := hl
  generalize va_A cw sz = A at *
  refine lv_aload_n (k := 0) hF.1 hF.2.1 (y_dcd_ok (by decide +kernel)) rfl (lv_at hl 0 rfl) ?_
  refine ggo (n := 3007) (index := 15) hF hs hc 93 (by decide) rfl 2 (by decide) (by decide +kernel) rfl (by decide +kernel) ?_
  refine lv_iload_n (k := 2) hF.1 hF.2.1 (y_dcd_ok (by decide +kernel)) rfl (lv_at hl 2 rfl) ?_
  refine lv_aload_n (k := 0) hF.1 hF.2.1 (y_dcd_ok (by decide +kernel)) rfl (lv_at hl 0 rfl) ?_
  refine ggo (n := 3007) (index := 15) hF hs hc 93 (by decide) rfl 2 (by decide) (by decide +kernel) rfl (by decide +kernel) ?_
  refine lv_iload_n (k := 1) hF.1 hF.2.1 (y_dcd_ok (by decide +kernel)) rfl (lv_at hl 1 rfl) ?_
  refine gald hF hs hT hc 94 148 (by decide) (by decide) hf (by decide +kernel) ?_
  refine gast hF hs hT hc 94 148 (by decide) (by decide) ht (by decide +kernel) (fun H locs cw hs hc => ?_)
  refine lv_aload_n (k := 0) hF.1 hF.2.1 (y_dcd_ok (by decide +kernel)) rfl (lv_at hl 0 rfl) ?_
  refine ggo (n := 3009) (index := 19) hF hs hc 93 (by decide) rfl 3 (by decide) (by decide +kernel) rfl (by decide +kernel) ?_
  refine lv_iload_n (k := 2) hF.1 hF.2.1 (y_dcd_ok (by decide +kernel)) rfl (lv_at hl 2 rfl) ?_
  refine lv_aload_n (k := 0) hF.1 hF.2.1 (y_dcd_ok (by decide +kernel)) rfl (lv_at hl 0 rfl) ?_
  refine ggo (n := 3009) (index := 19) hF hs hc 93 (by decide) rfl 3 (by decide) (by decide +kernel) rfl (by decide +kernel) ?_
  refine lv_iload_n (k := 1) hF.1 hF.2.1 (y_dcd_ok (by decide +kernel)) rfl (lv_at hl 1 rfl) ?_
  refine gald hF hs hT hc 95 148 (by decide) (by decide) hf (by decide +kernel) ?_
  refine gast hF hs hT hc 95 148 (by decide) (by decide) ht (by decide +kernel) (fun H locs cw hs hc => ?_)
  refine lv_aload_n (k := 0) hF.1 hF.2.1 (y_dcd_ok (by decide +kernel)) rfl (lv_at hl 0 rfl) ?_
  refine ggo (n := 3011) (index := 22) hF hs hc 93 (by decide) rfl 4 (by decide) (by decide +kernel) rfl (by decide +kernel) ?_
  refine lv_iload_n (k := 2) hF.1 hF.2.1 (y_dcd_ok (by decide +kernel)) rfl (lv_at hl 2 rfl) ?_
  refine lv_aload_n (k := 0) hF.1 hF.2.1 (y_dcd_ok (by decide +kernel)) rfl (lv_at hl 0 rfl) ?_
  refine ggo (n := 3011) (index := 22) hF hs hc 93 (by decide) rfl 4 (by decide) (by decide +kernel) rfl (by decide +kernel) ?_
  refine lv_iload_n (k := 1) hF.1 hF.2.1 (y_dcd_ok (by decide +kernel)) rfl (lv_at hl 1 rfl) ?_
  refine gald hF hs hT hc 96 148 (by decide) (by decide) hf (by decide +kernel) ?_
  refine gast hF hs hT hc 96 148 (by decide) (by decide) ht (by decide +kernel) (fun H locs cw hs hc => ?_)
  refine lv_aload_n (k := 0) hF.1 hF.2.1 (y_dcd_ok (by decide +kernel)) rfl (lv_at hl 0 rfl) ?_
  refine ggo (n := 3013) (index := 25) hF hs hc 93 (by decide) rfl 5 (by decide) (by decide +kernel) rfl (by decide +kernel) ?_
  refine lv_iload_n (k := 2) hF.1 hF.2.1 (y_dcd_ok (by decide +kernel)) rfl (lv_at hl 2 rfl) ?_
  refine lv_aload_n (k := 0) hF.1 hF.2.1 (y_dcd_ok (by decide +kernel)) rfl (lv_at hl 0 rfl) ?_
  refine ggo (n := 3013) (index := 25) hF hs hc 93 (by decide) rfl 5 (by decide) (by decide +kernel) rfl (by decide +kernel) ?_
  refine lv_iload_n (k := 1) hF.1 hF.2.1 (y_dcd_ok (by decide +kernel)) rfl (lv_at hl 1 rfl) ?_
  refine glald hF hs hT hc 97 148 (by decide) (by decide) hf (by decide +kernel) ?_
  refine glast hF hs hT hc 97 148 (by decide) (by decide) ht (by decide +kernel) (fun H locs cw hs hc => ?_)
  refine kv _ _ cw tys ls 48 rfl (by decide +kernel) hs ⟨rfl, rfl, ?_⟩
  have e1 : xup V 94 t (V 94 f) 95 f = V 95 f := by rw [xup_n _ _ _ (by decide)]
  have e2 : xup (xup V 94 t (V 94 f)) 95 t (V 95 f) 96 f = V 96 f := by rw [xup_n _ _ _ (by decide), xup_n _ _ _ (by decide)]
  rw [e1, e2] at hc
  exact hc
set_option maxHeartbeats 1000000 in
theorem jM_ahe {op : Int32} {u v : Nat} {rn ho he : Int32} (hT : xgT jI jJ cI tys) (hc : jW ad cI op u v rn ho he V L cw) {x y : jO} (hx : jxb x) (hy : jxb y) {k : Nat} (hk : k < 148) (hre : jre V L k y) : Met l (y_y xAhe) (y_ws ztb xAhe) (y_rm xAhe) (y_Pc znw b zcls D cw tys sz [.ref (ad 93), .int (nI x.a), .int (nI x.m), .int (nI x.f), .int (nI k)]) (y_Q zcls D (fun cw' tys' rv => rv = some (.int (if jkl x y then 1 else 0)) ∧ tys' = tys ∧ cw' = cw) cw sz) 0 0 (va_A cw sz) := by
  refine xMet (tb := ytb yw00) (mr := xAhe) yo_ym22 (fun x hx => by cases hx) (Nat.le_of_ble_eq_true rfl) ?_
  intro p e s m below meth c Q ls hsz hF hs hl kv ki
  have hl : lv_has ls 5 [(0, .ref (ad 93)), (1, .int (nI x.a)), (2, .int (nI x.m)), (3, .int (nI x.f)), (4, .int (nI k))] := hl
  obtain ⟨r1, r2, r3, r4⟩ := hre
  obtain ⟨x1, x2, x3, x4⟩ := hx
  obtain ⟨y1, y2, y3, y4⟩ := hy
  have yes : jkl x y → ∀ (ls : Array Slot) (pc : Nat), y_dcd (y_cc xAhe) pc .ireturn 1 = true → W p l e (y_rm xAhe) s m [Value.ref (ad 93), .int (nI x.a), .int (nI x.m), .int (nI x.f), .int (nI k)].toArray below meth c s.heap [] 0 0 Q (F0 m pc ls [.int 1]) := fun h ls pc hd => ki _ _ cw tys ls pc _ .boolean rfl rfl hd hs ⟨by rw [if_pos h], rfl, rfl⟩
  have no : ¬ jkl x y → ∀ (ls : Array Slot) (pc : Nat), y_dcd (y_cc xAhe) pc .ireturn 1 = true → W p l e (y_rm xAhe) s m [Value.ref (ad 93), .int (nI x.a), .int (nI x.m), .int (nI x.f), .int (nI k)].toArray below meth c s.heap [] 0 0 Q (F0 m pc ls [.int 0]) := fun h ls pc hd => ki _ _ cw tys ls pc _ .boolean rfl rfl hd hs ⟨by rw [if_neg h], rfl, rfl⟩
  refine lv_iload_n (k := 1) hF.1 hF.2.1 (y_dcd_ok (by decide +kernel)) rfl (lv_at hl 1 rfl) ?_
  refine lv_aload_n (k := 0) hF.1 hF.2.1 (y_dcd_ok (by decide +kernel)) rfl (lv_at hl 0 rfl) ?_
  refine ggo (n := 3007) (index := 15) hF hs hc 93 (by decide) rfl 2 (by decide) (by decide +kernel) rfl (by decide +kernel) ?_
  refine lv_iload (i := 4) hF.1 hF.2.1 (y_dcd_ok (by decide +kernel)) (lv_at hl 4 rfl) ?_
  refine gald hF hs hT hc 94 148 (by decide) (by decide) hk (by decide +kernel) ?_
  rw [r1]
  refine lv_icmp_eq (off := 20) (tgt := 28) hF.1 hF.2.1 (y_dcd_ok (by decide +kernel)) (by decide) (fun hq => ?_) (fun hq => ?_)
  rotate_left
  · have hne : x.a ≠ y.a := fun z => hq (by rw [z])
    refine lv_iload_n (k := 1) hF.1 hF.2.1 (y_dcd_ok (by decide +kernel)) rfl (lv_at hl 1 rfl) ?_
    refine lv_aload_n (k := 0) hF.1 hF.2.1 (y_dcd_ok (by decide +kernel)) rfl (lv_at hl 0 rfl) ?_
    refine ggo (n := 3007) (index := 15) hF hs hc 93 (by decide) rfl 2 (by decide) (by decide +kernel) rfl (by decide +kernel) ?_
    refine lv_iload (i := 4) hF.1 hF.2.1 (y_dcd_ok (by decide +kernel)) (lv_at hl 4 rfl) ?_
    refine gald hF hs hT hc 94 148 (by decide) (by decide) hk (by decide +kernel) ?_
    rw [r1]
    refine lv_icmp_ge (off := 7) (tgt := 26) hF.1 hF.2.1 (y_dcd_ok (by decide +kernel)) (by decide) (fun hq => ?_) (fun hq => ?_)
    · have hge := (dni_leb (by omega) (by omega)).mp hq
      refine lv_iconst (n := 0) (v := 0) hF.1 hF.2.1 (y_dcd_ok (by decide +kernel)) (by decide) ?_
      exact no (fun z => by unfold jkl at z; omega) ls 27 (by decide +kernel)
    · have hlt : ¬ y.a ≤ x.a := fun z => hq ((dni_leb (by omega) (by omega)).mpr z)
      refine lv_iconst (n := 1) (v := 1) hF.1 hF.2.1 (y_dcd_ok (by decide +kernel)) (by decide) ?_
      refine lv_goto (off := 4) (tgt := 27) hF.1 hF.2.1 (y_dcd_ok (by decide +kernel)) (by decide) ?_
      exact yes (Or.inl (by omega)) ls 27 (by decide +kernel)
  have ea := dni_injb (by omega) (by omega) hq
  clear hq
  refine lv_iload_n (k := 2) hF.1 hF.2.1 (y_dcd_ok (by decide +kernel)) rfl (lv_at hl 2 rfl) ?_
  refine lv_aload_n (k := 0) hF.1 hF.2.1 (y_dcd_ok (by decide +kernel)) rfl (lv_at hl 0 rfl) ?_
  refine ggo (n := 3009) (index := 19) hF hs hc 93 (by decide) rfl 3 (by decide) (by decide +kernel) rfl (by decide +kernel) ?_
  refine lv_iload (i := 4) hF.1 hF.2.1 (y_dcd_ok (by decide +kernel)) (lv_at hl 4 rfl) ?_
  refine gald hF hs hT hc 95 148 (by decide) (by decide) hk (by decide +kernel) ?_
  rw [r2]
  refine lv_icmp_eq (off := 22) (tgt := 58) hF.1 hF.2.1 (y_dcd_ok (by decide +kernel)) (by decide) (fun hq => ?_) (fun hq => ?_)
  rotate_left
  · have hne : x.m ≠ y.m := fun z => hq (by rw [z])
    refine lv_iload_n (k := 2) hF.1 hF.2.1 (y_dcd_ok (by decide +kernel)) rfl (lv_at hl 2 rfl) ?_
    refine lv_aload_n (k := 0) hF.1 hF.2.1 (y_dcd_ok (by decide +kernel)) rfl (lv_at hl 0 rfl) ?_
    refine ggo (n := 3009) (index := 19) hF hs hc 93 (by decide) rfl 3 (by decide) (by decide +kernel) rfl (by decide +kernel) ?_
    refine lv_iload (i := 4) hF.1 hF.2.1 (y_dcd_ok (by decide +kernel)) (lv_at hl 4 rfl) ?_
    refine gald hF hs hT hc 95 148 (by decide) (by decide) hk (by decide +kernel) ?_
    rw [r2]
    refine lv_icmp_ge (off := 7) (tgt := 54) hF.1 hF.2.1 (y_dcd_ok (by decide +kernel)) (by decide) (fun hq => ?_) (fun hq => ?_)
    · have hge := (dni_leb (by omega) (by omega)).mp hq
      refine lv_iconst (n := 0) (v := 0) hF.1 hF.2.1 (y_dcd_ok (by decide +kernel)) (by decide) ?_
      refine lv_goto (off := 19) (tgt := 74) hF.1 hF.2.1 (y_dcd_ok (by decide +kernel)) (by decide) ?_
      exact no (fun z => by unfold jkl at z; omega) ls 74 (by decide +kernel)
    · have hlt : ¬ y.m ≤ x.m := fun z => hq ((dni_leb (by omega) (by omega)).mpr z)
      refine lv_iconst (n := 1) (v := 1) hF.1 hF.2.1 (y_dcd_ok (by decide +kernel)) (by decide) ?_
      refine lv_goto (off := 23) (tgt := 74) hF.1 hF.2.1 (y_dcd_ok (by decide +kernel)) (by decide) ?_
      exact yes (by unfold jkl; omega) ls 74 (by decide +kernel)
  have em := dni_injb (by omega) (by omega) hq
  clear hq
  refine lv_iload_n (k := 3) hF.1 hF.2.1 (y_dcd_ok (by decide +kernel)) rfl (lv_at hl 3 rfl) ?_
  refine lv_aload_n (k := 0) hF.1 hF.2.1 (y_dcd_ok (by decide +kernel)) rfl (lv_at hl 0 rfl) ?_
  refine ggo (n := 3011) (index := 22) hF hs hc 93 (by decide) rfl 4 (by decide) (by decide +kernel) rfl (by decide +kernel) ?_
  refine lv_iload (i := 4) hF.1 hF.2.1 (y_dcd_ok (by decide +kernel)) (lv_at hl 4 rfl) ?_
  refine gald hF hs hT hc 96 148 (by decide) (by decide) hk (by decide +kernel) ?_
  rw [r3]
  refine lv_icmp_ge (off := 7) (tgt := 73) hF.1 hF.2.1 (y_dcd_ok (by decide +kernel)) (by decide) (fun hq => ?_) (fun hq => ?_)
  · have hge := (dni_leb (by omega) (by omega)).mp hq
    refine lv_iconst (n := 0) (v := 0) hF.1 hF.2.1 (y_dcd_ok (by decide +kernel)) (by decide) ?_
    exact no (fun z => by unfold jkl at z; omega) ls 74 (by decide +kernel)
  · have hlt : ¬ y.f ≤ x.f := fun z => hq ((dni_leb (by omega) (by omega)).mpr z)
    refine lv_iconst (n := 1) (v := 1) hF.1 hF.2.1 (y_dcd_ok (by decide +kernel)) (by decide) ?_
    refine lv_goto (off := 4) (tgt := 74) hF.1 hF.2.1 (y_dcd_ok (by decide +kernel)) (by decide) ?_
    exact yes (by unfold jkl; omega) ls 74 (by decide +kernel)
/-- options in rows -/
def jro (K : List jO) (V : Nat → Nat → Int32) (L : Nat → Nat → Int64) : Prop := ∀ k x, K[k]? = some x → jre V L k x ∧ jxb x
/-- rows that are not of options stay -/
def jns (V V' : Nat → Nat → Int32) (L L' : Nat → Nat → Int64) : Prop := (∀ q, ¬ (94 ≤ q ∧ q ≤ 96) → V' q = V q) ∧ ∀ q, q ≠ 97 → L' q = L q
set_option maxHeartbeats 8000000 in
theorem jM_off {u v : Nat} {rn ho he : Int32} (hT : xgT jI jJ cI tys) {K : List jO} (hK : K.length ≤ 148) (hc : jW ad cI (nI K.length) u v rn ho he V L cw) (hro : jro K V L) {x : jO} (hx : jxb x) (hkeep : ∀ y z, y ∈ K → z ∈ K → jgd y x → jle x z → ¬ jgd z x → False) (hlen : (∀ y ∈ K, ¬ jgd y x) → (K.filter fun y => !(decide (jle x y))).length < 148) : Met l (y_y xOff) (y_ws ztb xOff) (y_rm xOff) (y_Pc znw b zcls D cw tys sz [.ref (ad 93), .int (nI x.a), .int (nI x.m), .int (nI x.f), .long (nL x.c)]) (y_Q zcls D (fun cw' tys' rv => rv = none ∧ tys' = tys ∧ ∃ V' L', jW ad cI (nI (jof K x).length) u v rn ho he V' L' cw' ∧ jns V V' L L' ∧ jro (jof K x) V' L') cw sz) 0 0 (va_A cw sz) := by
  refine xMet (tb := ytb yw00) (mr := xOff) yo_yr22 (fun x hx => by cases hx) (Nat.le_of_ble_eq_true rfl) ?_
  intro p e s m below meth c Q ls hsz hF hs hl kv ki
  have hl : lv_has ls 10 [(0, .ref (ad 93)), (1, .int (nI x.a)), (2, .int (nI x.m)), (3, .int (nI x.f)), (4, .long (nL x.c))] := hl
  generalize va_A cw sz = A at *
  obtain ⟨x1, x2, x3, x4⟩ := id hx
  -- the second loop: the place of x
  have loop2 : ∀ (F : List jO), F.length < 148 → (∀ y ∈ F, jxb y) → jof K x = jin F x → ∀ (at_ : Nat), at_ ≤ F.length → jat F x at_ = jat F x F.length → ∀ (H : Heap) (locs : List Loc) (cw : va_W) (V1 : Nat → Nat → Int32) (L1 : Nat → Nat → Int64) (ls : Array Slot), xs D s A H locs cw tys → jW ad cI (nI F.length) u v rn ho he V1 L1 cw → jns V V1 L L1 → (∀ k y, k < at_ → F[k]? = some y → jre V1 L1 k y) → (∀ k y, at_ ≤ k → F[k]? = some y → jre V1 L1 (k + 1) y) → lv_has ls 10 [(7, .int (nI at_)), (0, .ref (ad 93)), (1, .int (nI x.a)), (2, .int (nI x.m)), (3, .int (nI x.f)), (4, .long (nL x.c))] → W p l e (y_rm xOff) s m [Value.ref (ad 93), .int (nI x.a), .int (nI x.m), .int (nI x.f), .long (nL x.c)].toArray below meth c H locs 0 0 Q (F0 m 164 ls []) := by
    intro F hF8 hFb hjo at_
    -- the end: x comes in
    have fin : ∀ (at_ : Nat), at_ ≤ F.length → at_ = jat F x F.length → ∀ (H : Heap) (locs : List Loc) (cw : va_W) (V1 : Nat → Nat → Int32) (L1 : Nat → Nat → Int64) (ls : Array Slot), xs D s A H locs cw tys → jW ad cI (nI F.length) u v rn ho he V1 L1 cw → jns V V1 L L1 → (∀ k y, k < at_ → F[k]? = some y → jre V1 L1 k y) → (∀ k y, at_ ≤ k → F[k]? = some y → jre V1 L1 (k + 1) y) → lv_has ls 10 [(7, .int (nI at_)), (0, .ref (ad 93)), (1, .int (nI x.a)), (2, .int (nI x.m)), (3, .int (nI x.f)), (4, .long (nL x.c))] → W p l e (y_rm xOff) s m [Value.ref (ad 93), .int (nI x.a), .int (nI x.m), .int (nI x.f), .long (nL x.c)].toArray below meth c H locs 0 0 Q (F0 m 199 ls []) := by
      intro at_ ha hat H locs cw V1 L1 ls hs hc hns hlo hhi hl
      have ha8 : at_ < 148 := by omega
      refine lv_aload_n (k := 0) hF.1 hF.2.1 (y_dcd_ok (by decide +kernel)) rfl (lv_at hl 1 rfl) ?_
      refine ggo (n := 3007) (index := 15) hF hs hc 93 (by decide) rfl 2 (by decide) (by decide +kernel) rfl (by decide +kernel) ?_
      refine lv_iload (i := 7) hF.1 hF.2.1 (y_dcd_ok (by decide +kernel)) (lv_at hl 0 rfl) ?_
      refine lv_iload_n (k := 1) hF.1 hF.2.1 (y_dcd_ok (by decide +kernel)) rfl (lv_at hl 2 rfl) ?_
      refine gast hF hs hT hc 94 148 (by decide) (by decide) ha8 (by decide +kernel) (fun H locs cw hs hc => ?_)
      refine lv_aload_n (k := 0) hF.1 hF.2.1 (y_dcd_ok (by decide +kernel)) rfl (lv_at hl 1 rfl) ?_
      refine ggo (n := 3009) (index := 19) hF hs hc 93 (by decide) rfl 3 (by decide) (by decide +kernel) rfl (by decide +kernel) ?_
      refine lv_iload (i := 7) hF.1 hF.2.1 (y_dcd_ok (by decide +kernel)) (lv_at hl 0 rfl) ?_
      refine lv_iload_n (k := 2) hF.1 hF.2.1 (y_dcd_ok (by decide +kernel)) rfl (lv_at hl 3 rfl) ?_
      refine gast hF hs hT hc 95 148 (by decide) (by decide) ha8 (by decide +kernel) (fun H locs cw hs hc => ?_)
      refine lv_aload_n (k := 0) hF.1 hF.2.1 (y_dcd_ok (by decide +kernel)) rfl (lv_at hl 1 rfl) ?_
      refine ggo (n := 3011) (index := 22) hF hs hc 93 (by decide) rfl 4 (by decide) (by decide +kernel) rfl (by decide +kernel) ?_
      refine lv_iload (i := 7) hF.1 hF.2.1 (y_dcd_ok (by decide +kernel)) (lv_at hl 0 rfl) ?_
      refine lv_iload_n (k := 3) hF.1 hF.2.1 (y_dcd_ok (by decide +kernel)) rfl (lv_at hl 4 rfl) ?_
      refine gast hF hs hT hc 96 148 (by decide) (by decide) ha8 (by decide +kernel) (fun H locs cw hs hc => ?_)
      refine lv_aload_n (k := 0) hF.1 hF.2.1 (y_dcd_ok (by decide +kernel)) rfl (lv_at hl 1 rfl) ?_
      refine ggo (n := 3013) (index := 25) hF hs hc 93 (by decide) rfl 5 (by decide) (by decide +kernel) rfl (by decide +kernel) ?_
      refine lv_iload (i := 7) hF.1 hF.2.1 (y_dcd_ok (by decide +kernel)) (lv_at hl 0 rfl) ?_
      refine lv_lload (i := 4) hF.1 hF.2.1 (y_dcd_ok (by decide +kernel)) (lv_at hl 5 rfl) ?_
      refine glast hF hs hT hc 97 148 (by decide) (by decide) ha8 (by decide +kernel) (fun H locs cw hs hc => ?_)
      refine lv_aload_n (k := 0) hF.1 hF.2.1 (y_dcd_ok (by decide +kernel)) rfl (lv_at hl 1 rfl) ?_
      refine lv_dup hF.1 hF.2.1 (y_dcd_ok (by decide +kernel)) rfl ?_
      refine ggo (n := 3005) (index := 9) hF hs hc 93 (by decide) rfl 1 (by decide) (by decide +kernel) rfl (by decide +kernel) ?_
      refine lv_iconst (n := 1) (v := 1) hF.1 hF.2.1 (y_dcd_ok (by decide +kernel)) (by decide) ?_
      refine lv_iadd hF.1 hF.2.1 (y_dcd_ok (by decide +kernel)) ?_
      rw [dni_add1 (by omega)]
      refine gpo (n := 3005) (index := 9) hF hs hc 93 (by decide) rfl 1 (by decide) (by decide +kernel) rfl (ty := .int) (by decide +kernel) rfl rfl (Nat.le_of_ble_eq_true rfl) (by decide +kernel) (fun H locs cw hs hc => ?_)
      rw [jOb_op] at hc
      obtain ⟨V2, hV2⟩ : ∃ V2, V2 = xup (xup (xup V1 94 at_ (nI x.a)) 95 at_ (nI x.m)) 96 at_ (nI x.f) := ⟨_, rfl⟩
      obtain ⟨L2, hL2⟩ : ∃ L2, L2 = xupL L1 97 at_ (nL x.c) := ⟨_, rfl⟩
      rw [← hV2, ← hL2] at hc
      have hsame : ∀ k y, k ≠ at_ → (jre V2 L2 k y ↔ jre V1 L1 k y) := fun k y hk => by
        rw [hV2, hL2]
        unfold jre
        simp [xup, xupL, upd, vp_updL, hk]
      have hxx : jre V2 L2 at_ x := by
        rw [hV2, hL2]
        unfold jre
        simp [xup, xupL, upd, vp_updL]
      refine kv _ _ cw tys ls 242 rfl (by decide +kernel) hs ⟨rfl, rfl, V2, L2, ?_, ⟨fun q hq => ?_, fun q hq => ?_⟩, ?_⟩
      · rw [hjo, show (jin F x).length = F.length + 1 from by unfold jin; rw [List.length_append, List.length_cons, List.length_take, List.length_drop]; omega]
        exact hc
      · rw [hV2, xup_n _ _ _ (by omega), xup_n _ _ _ (by omega), xup_n _ _ _ (by omega)]
        exact hns.1 q hq
      · rw [hL2, xupL_n _ _ _ hq]
        exact hns.2 q hq
      · rw [hjo]
        intro k y hk
        unfold jin at hk
        rw [← hat] at hk
        rcases Nat.lt_trichotomy k at_ with q | q | q
        · rw [List.getElem?_append_left (by rw [List.length_take]; omega), List.getElem?_take_of_lt q] at hk
          exact ⟨(hsame k y (by omega)).mpr (hlo k y q hk), hFb y (List.mem_of_getElem? hk)⟩
        · subst q
          rw [List.getElem?_append_right (by rw [List.length_take]; omega), List.length_take, show k - min k F.length = 0 by omega] at hk
          have hk := Option.some.inj hk
          subst hk
          exact ⟨hxx, hx⟩
        · rw [List.getElem?_append_right (by rw [List.length_take]; omega), List.length_take, show k - min at_ F.length = (k - 1 - at_) + 1 by omega, List.getElem?_cons_succ, List.getElem?_drop, show at_ + (k - 1 - at_) = k - 1 by omega] at hk
          have h9 := hhi (k - 1) y (by omega) hk
          rw [show k - 1 + 1 = k by omega] at h9
          exact ⟨(hsame k y (by omega)).mpr h9, hFb y (List.mem_of_getElem? hk)⟩
    induction at_ with
    | zero =>
      intro ha hat H locs cw V1 L1 ls hs hc hns hlo hhi hl
      refine lv_iload (i := 7) hF.1 hF.2.1 (y_dcd_ok (by decide +kernel)) (lv_at hl 0 rfl) ?_
      refine lv_if_le (off := 33) (tgt := 199) hF.1 hF.2.1 (y_dcd_ok (by decide +kernel)) (by decide) (fun hq => ?_) (fun hq => ?_)
      · exact fin 0 (Nat.zero_le _) hat _ _ cw V1 L1 ls hs hc hns hlo hhi hl
      · exact absurd (by decide) hq
    | succ k ih =>
      intro ha hat H locs cw V1 L1 ls hs hc hns hlo hhi hl
      have hk8 : k < 148 := by omega
      have hFk : F[k]? = some F[k] := List.getElem?_eq_getElem (by omega)
      have hre := hlo k F[k] (by omega) hFk
      have hFkb := hFb F[k] (List.getElem_mem _)
      have hjat : jat F x (k + 1) = if jkl x F[k] then jat F x k else k + 1 := by
        show (match F[k]? with
          | some y => if jkl x y then jat F x k else k + 1
          | none => k + 1) = _
        rw [hFk]
      refine lv_iload (i := 7) hF.1 hF.2.1 (y_dcd_ok (by decide +kernel)) (lv_at hl 0 rfl) ?_
      refine lv_if_le (off := 33) (tgt := 199) hF.1 hF.2.1 (y_dcd_ok (by decide +kernel)) (by decide) (fun hq => ?_) (fun hq => ?_)
      · exact absurd ((dni_leb (j := 0) (by omega) (by omega)).mp hq) (by omega)
      clear hq
      refine lv_aload_n (k := 0) hF.1 hF.2.1 (y_dcd_ok (by decide +kernel)) rfl (lv_at hl 1 rfl) ?_
      refine lv_iload_n (k := 1) hF.1 hF.2.1 (y_dcd_ok (by decide +kernel)) rfl (lv_at hl 2 rfl) ?_
      refine lv_iload_n (k := 2) hF.1 hF.2.1 (y_dcd_ok (by decide +kernel)) rfl (lv_at hl 3 rfl) ?_
      refine lv_iload_n (k := 3) hF.1 hF.2.1 (y_dcd_ok (by decide +kernel)) rfl (lv_at hl 4 rfl) ?_
      refine lv_iload (i := 7) hF.1 hF.2.1 (y_dcd_ok (by decide +kernel)) (lv_at hl 0 rfl) ?_
      refine lv_iconst (n := 1) (v := 1) hF.1 hF.2.1 (y_dcd_ok (by decide +kernel)) (by decide) ?_
      refine lv_isub hF.1 hF.2.1 (y_dcd_ok (by decide +kernel)) ?_
      rw [dni_sub (by omega)]
      refine xcallV (As := [.int _, .int _, .int _, .int _]) (rest := []) (n := 7196) (j := 93) hF hs hl.1 (hc.hO 93 (by decide)) (cm := xAhe) yo_ym22 rfl (by decide) (by decide +kernel) (show _ = some 4 from by decide +kernel) (by decide +kernel) ⟨by decide, by decide⟩ ⟨rfl, rfl⟩ (Nat.le_of_ble_eq_true rfl) ⟨Nat.zero_le _, Nat.zero_le _⟩ (jM_ahe hT hc hx hFkb hk8 hre) (fun H1 locs1 cw1 tys1 rv hs hX => ?_)
      obtain ⟨e1, e2, e3⟩ := hX
      subst e1
      rw [e2, e3] at hs
      show W _ _ _ _ _ _ _ _ _ _ _ _ _ _ _ (F0 m 180 ls [.int _])
      refine lv_if_eq (off := 19) (tgt := 199) hF.1 hF.2.1 (y_dcd_ok (by decide +kernel)) (by decide) (fun hq => ?_) (fun hq => ?_)
      · have hn : ¬ jkl x F[k] := fun z => by
          rw [if_pos z] at hq
          exact absurd hq (by decide)
        rw [if_neg hn] at hjat
        exact fin (k + 1) ha (by rw [← hat, hjat]) _ _ cw V1 L1 ls hs hc hns hlo hhi hl
      have hy : jkl x F[k] := by
        by_cases z : jkl x F[k]
        · exact z
        · rw [if_neg z] at hq
          exact absurd rfl hq
      rw [if_pos hy] at hjat
      clear hq
      refine lv_aload_n (k := 0) hF.1 hF.2.1 (y_dcd_ok (by decide +kernel)) rfl (lv_at hl 1 rfl) ?_
      refine lv_iload (i := 7) hF.1 hF.2.1 (y_dcd_ok (by decide +kernel)) (lv_at hl 0 rfl) ?_
      refine lv_iconst (n := 1) (v := 1) hF.1 hF.2.1 (y_dcd_ok (by decide +kernel)) (by decide) ?_
      refine lv_isub hF.1 hF.2.1 (y_dcd_ok (by decide +kernel)) ?_
      rw [dni_sub (by omega)]
      refine lv_iload (i := 7) hF.1 hF.2.1 (y_dcd_ok (by decide +kernel)) (lv_at hl 0 rfl) ?_
      refine xcallV (As := [.int _, .int _]) (rest := []) (n := 7192) (j := 90) hF hs hl.1 (hc.hO 93 (by decide)) (cm := xCop) yo_ym20 rfl (by decide) (by decide +kernel) (show _ = some 2 from by decide +kernel) (by decide +kernel) ⟨by decide, by decide⟩ ⟨rfl, rfl⟩ (Nat.le_of_ble_eq_true rfl) ⟨Nat.zero_le _, Nat.zero_le _⟩ (jM_cop hT hc hk8 (t := k + 1) (by omega)) (fun H2 locs2 cw2 tys2 rv hs hX => ?_)
      obtain ⟨e1, e2', hc2⟩ := hX
      subst e1
      rw [e2'] at hs
      show W _ _ _ _ _ _ _ _ _ _ _ _ _ _ _ (F0 m 193 ls [])
      refine lv_iinc (nL := 10) (i := 7) (n := (-1)) (k := 0) (v := nI k) hF.1 hF.2.1 (y_dcd_ok (by decide +kernel)) hl rfl (by rw [dni_dec]; exact dni_sub (by omega)) (by decide) rfl (fun ls hl => ?_)
      refine lv_goto (off := (-32)) (tgt := 164) hF.1 hF.2.1 (y_dcd_ok (by decide +kernel)) (by decide) ?_
      refine ih (by omega) (by rw [← hat, hjat]) _ _ cw2 _ _ ls hs hc2 ⟨fun q hq => by rw [jcpV_n hq]; exact hns.1 q hq, fun q hq => by rw [jcpL_n hq]; exact hns.2 q hq⟩ (fun j y hj hy' => (jcp_n (by omega)).mpr (hlo j y (by omega) hy')) (fun j y hj hy' => ?_) hl
      by_cases ej : j = k
      · subst ej
        rw [hFk] at hy'
        rw [← Option.some.inj hy']
        exact jcp_s.mpr hre
      · exact (jcp_n (by omega)).mpr (hhi j y (by omega) hy')
  -- the first loop: who stays
  have loop1 : ∀ (d k : Nat), k + d = K.length → (∀ y ∈ K.take k, ¬ jgd y x) → ∀ (H : Heap) (locs : List Loc) (cw : va_W) (V1 : Nat → Nat → Int32) (L1 : Nat → Nat → Int64) (ls : Array Slot), xs D s A H locs cw tys → jW ad cI (nI K.length) u v rn ho he V1 L1 cw → jns V V1 L L1 → (∀ j y, ((K.take k).filter fun y => !(decide (jle x y)))[j]? = some y → jre V1 L1 j y) → (∀ j y, k ≤ j → K[j]? = some y → jre V1 L1 j y) → lv_has ls 10 [(7, .int (nI k)), (6, .int (nI ((K.take k).filter fun y => !(decide (jle x y))).length)), (0, .ref (ad 93)), (1, .int (nI x.a)), (2, .int (nI x.m)), (3, .int (nI x.f)), (4, .long (nL x.c))] → W p l e (y_rm xOff) s m [Value.ref (ad 93), .int (nI x.a), .int (nI x.m), .int (nI x.f), .long (nL x.c)].toArray below meth c H locs 0 0 Q (F0 m 6 ls []) := by
    intro d
    induction d with
    | zero =>
      intro k hkd hno H locs cw V1 L1 ls hs hc hns hlo hhi hl
      have hkK : K.take k = K := List.take_of_length_le (by omega)
      rw [hkK] at hno hlo hl
      have hF8 := hlen hno
      refine lv_iload (i := 7) hF.1 hF.2.1 (y_dcd_ok (by decide +kernel)) (lv_at hl 0 rfl) ?_
      refine lv_aload_n (k := 0) hF.1 hF.2.1 (y_dcd_ok (by decide +kernel)) rfl (lv_at hl 2 rfl) ?_
      refine ggo (n := 3005) (index := 9) hF hs hc 93 (by decide) rfl 1 (by decide) (by decide +kernel) rfl (by decide +kernel) ?_
      refine lv_icmp_ge (off := 129) (tgt := 141) hF.1 hF.2.1 (y_dcd_ok (by decide +kernel)) (by decide) (fun hq => ?_) (fun hq => ?_)
      rotate_left
      · exact absurd ((dni_le (by omega) (by omega)).mpr (by omega)) hq
      clear hq
      refine lv_aload_n (k := 0) hF.1 hF.2.1 (y_dcd_ok (by decide +kernel)) rfl (lv_at hl 2 rfl) ?_
      refine lv_iload (i := 6) hF.1 hF.2.1 (y_dcd_ok (by decide +kernel)) (lv_at hl 1 rfl) ?_
      refine gpo (n := 3005) (index := 9) hF hs hc 93 (by decide) rfl 1 (by decide) (by decide +kernel) rfl (ty := .int) (by decide +kernel) rfl rfl (Nat.le_of_ble_eq_true rfl) (by decide +kernel) (fun H locs cw hs hc => ?_)
      rw [jOb_op] at hc
      refine lv_aload_n (k := 0) hF.1 hF.2.1 (y_dcd_ok (by decide +kernel)) rfl (lv_at hl 2 rfl) ?_
      refine ggo (n := 3005) (index := 9) hF hs hc 93 (by decide) rfl 1 (by decide) (by decide +kernel) rfl (by decide +kernel) ?_
      refine lv_sipush (n := 148) (v := 148) hF.1 hF.2.1 (y_dcd_ok (by decide +kernel)) (by decide) ?_
      refine lv_icmp_lt (off := 4) (tgt := 158) hF.1 hF.2.1 (y_dcd_ok (by decide +kernel)) (by decide) (fun hq => ?_) (fun hq => ?_)
      rotate_left
      · exact absurd ((dni_ltb (j := 148) (by omega) (by decide)).mpr hF8) hq
      clear hq
      refine lv_aload_n (k := 0) hF.1 hF.2.1 (y_dcd_ok (by decide +kernel)) rfl (lv_at hl 2 rfl) ?_
      refine ggo (n := 3005) (index := 9) hF hs hc 93 (by decide) rfl 1 (by decide) (by decide +kernel) rfl (by decide +kernel) ?_
      refine lv_istore (nL := 10) (i := 7) hF.1 hF.2.1 (y_dcd_ok (by decide +kernel)) hl (by decide) rfl (fun ls hl => ?_)
      have hjo : jof K x = jin (K.filter fun y => !(decide (jle x y))) x := if_neg (fun z => by
        obtain ⟨y, hy, hg⟩ := List.any_eq_true.mp z
        exact hno y hy (of_decide_eq_true hg))
      refine loop2 _ hF8 (fun y hy => ?_) hjo _ (Nat.le_refl _) rfl _ _ cw V1 L1 ls hs hc hns (fun k y _ hk => hlo k y hk) (fun k y h1 h2 => ?_) (lv_sub hl [0, 2, 3, 4, 5, 6] rfl)
      · obtain ⟨j, hj⟩ := List.mem_iff_getElem?.mp (List.mem_filter.mp hy).1
        exact (hro j y hj).2
      · rw [List.getElem?_eq_none h1] at h2
        cases h2
    | succ d ih =>
      intro k hkd hno H locs cw V1 L1 ls hs hc hns hlo hhi hl
      have hk8 : k < 148 := by omega
      have hKk : K[k]? = some K[k] := List.getElem?_eq_getElem (by omega)
      obtain ⟨y, hy⟩ : ∃ y, y = K[k] := ⟨_, rfl⟩
      rw [← hy] at hKk
      have hyK : y ∈ K := List.mem_of_getElem? hKk
      obtain ⟨r1, r2, r3, r4⟩ := hhi k y (Nat.le_refl _) hKk
      obtain ⟨y1, y2, y3, y4⟩ := (hro k y hKk).2
      have htk : K.take (k + 1) = K.take k ++ [y] := by rw [List.take_add_one, hKk]; rfl
      obtain ⟨kp, hkp⟩ : ∃ kp, kp = ((K.take k).filter fun y => !(decide (jle x y))).length := ⟨_, rfl⟩
      have hkpk : kp ≤ k := by
        have := List.length_filter_le (fun y => !(decide (jle x y))) (K.take k)
        rw [List.length_take] at this
        omega
      rw [← hkp] at hl
      refine lv_iload (i := 7) hF.1 hF.2.1 (y_dcd_ok (by decide +kernel)) (lv_at hl 0 rfl) ?_
      refine lv_aload_n (k := 0) hF.1 hF.2.1 (y_dcd_ok (by decide +kernel)) rfl (lv_at hl 2 rfl) ?_
      refine ggo (n := 3005) (index := 9) hF hs hc 93 (by decide) rfl 1 (by decide) (by decide +kernel) rfl (by decide +kernel) ?_
      refine lv_icmp_ge (off := 129) (tgt := 141) hF.1 hF.2.1 (y_dcd_ok (by decide +kernel)) (by decide) (fun hq => ?_) (fun hq => ?_)
      · exact absurd ((dni_le (by omega) (by omega)).mp hq) (by omega)
      clear hq
      -- behind both tests
      have at95 : ∀ ls : Array Slot, lv_has ls 10 [(9, .int (if jle x y then 1 else 0)), (8, .int (if jle y x then 1 else 0)), (7, .int (nI k)), (6, .int (nI kp)), (0, .ref (ad 93)), (1, .int (nI x.a)), (2, .int (nI x.m)), (3, .int (nI x.f)), (4, .long (nL x.c))] → W p l e (y_rm xOff) s m [Value.ref (ad 93), .int (nI x.a), .int (nI x.m), .int (nI x.f), .long (nL x.c)].toArray below meth c H locs 0 0 Q (F0 m 95 ls []) := by
        intro ls hl
        -- refused
        have ret : jgd y x → ∀ ls : Array Slot, W p l e (y_rm xOff) s m [Value.ref (ad 93), .int (nI x.a), .int (nI x.m), .int (nI x.f), .long (nL x.c)].toArray below meth c H locs 0 0 Q (F0 m 118 ls []) := fun hg ls => by
          have hall : ∀ z ∈ K.take k, ¬ jle x z := fun z hz hb => hkeep y z hyK (List.mem_of_mem_take hz) hg hb (hno z hz)
          have hft : (K.take k).filter (fun y => !(decide (jle x y))) = K.take k := List.filter_eq_self.mpr fun z hz => by rw [decide_eq_false (hall z hz)]; rfl
          have hjo : jof K x = K := if_pos (List.any_eq_true.mpr ⟨y, hyK, decide_eq_true hg⟩)
          rw [hft] at hlo
          refine kv _ _ cw tys ls 118 rfl (by decide +kernel) hs ⟨rfl, rfl, V1, L1, by rw [hjo]; exact hc, hns, ?_⟩
          rw [hjo]
          intro j z hj
          refine ⟨?_, (hro j z hj).2⟩
          by_cases hjk : j < k
          · exact hlo j z (by rw [List.getElem?_take_of_lt hjk]; exact hj)
          · exact hhi j z (by omega) hj
        -- goes on
        have goon : ¬ jgd y x → ∀ ls : Array Slot, lv_has ls 10 [(9, .int (if jle x y then 1 else 0)), (8, .int (if jle y x then 1 else 0)), (7, .int (nI k)), (6, .int (nI kp)), (0, .ref (ad 93)), (1, .int (nI x.a)), (2, .int (nI x.m)), (3, .int (nI x.f)), (4, .long (nL x.c))] → W p l e (y_rm xOff) s m [Value.ref (ad 93), .int (nI x.a), .int (nI x.m), .int (nI x.f), .long (nL x.c)].toArray below meth c H locs 0 0 Q (F0 m 119 ls []) := fun hg ls hl => by
          have hno' : ∀ z ∈ K.take (k + 1), ¬ jgd z x := fun z hz => by
            rw [htk] at hz
            rcases List.mem_append.mp hz with hz | hz
            · exact hno z hz
            · rw [List.mem_singleton.mp hz]
              exact hg
          refine lv_iload (i := 9) hF.1 hF.2.1 (y_dcd_ok (by decide +kernel)) (lv_at hl 0 rfl) ?_
          refine lv_if_ne (off := 14) (tgt := 135) hF.1 hF.2.1 (y_dcd_ok (by decide +kernel)) (by decide) (fun hq => ?_) (fun hq => ?_)
          · have hb : jle x y := by
              by_cases z : jle x y
              · exact z
              · rw [if_neg z] at hq
                exact absurd rfl hq
            have hff : (K.take (k + 1)).filter (fun y => !(decide (jle x y))) = (K.take k).filter (fun y => !(decide (jle x y))) := by
              rw [htk, List.filter_append, List.filter_cons, if_neg (by rw [decide_eq_true hb]; decide)]
              simp
            refine lv_iinc (nL := 10) (i := 7) (n := 1) (k := 2) (v := nI (k + 1)) hF.1 hF.2.1 (y_dcd_ok (by decide +kernel)) hl rfl (dni_add (by omega)) (by decide) rfl (fun ls hl => ?_)
            refine lv_goto (off := (-132)) (tgt := 6) hF.1 hF.2.1 (y_dcd_ok (by decide +kernel)) (by decide) ?_
            refine ih (k + 1) (by omega) hno' _ _ cw V1 L1 ls hs hc hns (by rw [hff]; exact hlo) (fun j z hj hz => hhi j z (by omega) hz) (lv_sub hl [0, 3, 4, 5, 6, 7, 8] ?_)
            rw [hff, ← hkp]
            rfl
          have hb : ¬ jle x y := fun z => by
            rw [if_pos z] at hq
            exact absurd hq (by decide)
          clear hq
          have hff : (K.take (k + 1)).filter (fun y => !(decide (jle x y))) = (K.take k).filter (fun y => !(decide (jle x y))) ++ [y] := by
            rw [htk, List.filter_append, List.filter_cons, if_pos (by rw [decide_eq_false hb]; rfl)]
            rfl
          refine lv_aload_n (k := 0) hF.1 hF.2.1 (y_dcd_ok (by decide +kernel)) rfl (lv_at hl 4 rfl) ?_
          refine lv_iload (i := 7) hF.1 hF.2.1 (y_dcd_ok (by decide +kernel)) (lv_at hl 2 rfl) ?_
          refine lv_iload (i := 6) hF.1 hF.2.1 (y_dcd_ok (by decide +kernel)) (lv_at hl 3 rfl) ?_
          refine xcallV (As := [.int _, .int _]) (rest := []) (n := 7192) (j := 90) hF hs hl.1 (hc.hO 93 (by decide)) (cm := xCop) yo_ym20 rfl (by decide) (by decide +kernel) (show _ = some 2 from by decide +kernel) (by decide +kernel) ⟨by decide, by decide⟩ ⟨rfl, rfl⟩ (Nat.le_of_ble_eq_true rfl) ⟨Nat.zero_le _, Nat.zero_le _⟩ (jM_cop hT hc hk8 (t := kp) (by omega)) (fun H2 locs2 cw2 tys2 rv hs hX => ?_)
          obtain ⟨e1, e2', hc2⟩ := hX
          subst e1
          rw [e2'] at hs
          show W _ _ _ _ _ _ _ _ _ _ _ _ _ _ _ (F0 m 132 ls [])
          refine lv_iinc (nL := 10) (i := 6) (n := 1) (k := 3) (v := nI (kp + 1)) hF.1 hF.2.1 (y_dcd_ok (by decide +kernel)) hl rfl (dni_add (by omega)) (by decide) rfl (fun ls hl => ?_)
          refine lv_iinc (nL := 10) (i := 7) (n := 1) (k := 3) (v := nI (k + 1)) hF.1 hF.2.1 (y_dcd_ok (by decide +kernel)) hl rfl (dni_add (by omega)) (by decide) rfl (fun ls hl => ?_)
          refine lv_goto (off := (-132)) (tgt := 6) hF.1 hF.2.1 (y_dcd_ok (by decide +kernel)) (by decide) ?_
          refine ih (k + 1) (by omega) hno' _ _ cw2 _ _ ls hs hc2 ⟨fun q hq => by rw [jcpV_n hq]; exact hns.1 q hq, fun q hq => by rw [jcpL_n hq]; exact hns.2 q hq⟩ (fun j z hz => ?_) (fun j z hj hz => (jcp_n (by omega)).mpr (hhi j z (by omega) hz)) (lv_sub hl [0, 1, 4, 5, 6, 7, 8] ?_)
          · rw [hff] at hz
            by_cases hjk : j < kp
            · rw [List.getElem?_append_left (by omega)] at hz
              exact (jcp_n (by omega)).mpr (hlo j z hz)
            · rw [List.getElem?_append_right (by omega), ← hkp] at hz
              have hj0 : j - kp = 0 := by
                have := (List.getElem?_eq_some_iff.mp hz).1
                simp only [List.length_cons, List.length_nil] at this
                omega
              rw [hj0] at hz
              have hz := Option.some.inj hz
              subst hz
              rw [show j = kp by omega]
              exact jcp_s.mpr ⟨r1, r2, r3, r4⟩
          · rw [hff, List.length_append, ← hkp]
            rfl
        refine lv_iload (i := 8) hF.1 hF.2.1 (y_dcd_ok (by decide +kernel)) (lv_at hl 1 rfl) ?_
        refine lv_if_eq (off := 22) (tgt := 119) hF.1 hF.2.1 (y_dcd_ok (by decide +kernel)) (by decide) (fun hq => ?_) (fun hq => ?_)
        · have hg : ¬ jle y x := fun z => by
            rw [if_pos z] at hq
            exact absurd hq (by decide)
          exact goon (fun z => hg z.1) ls hl
        have hg : jle y x := by
          by_cases z : jle y x
          · exact z
          · rw [if_neg z] at hq
            exact absurd rfl hq
        clear hq
        refine lv_iload (i := 9) hF.1 hF.2.1 (y_dcd_ok (by decide +kernel)) (lv_at hl 0 rfl) ?_
        refine lv_if_eq (off := 16) (tgt := 118) hF.1 hF.2.1 (y_dcd_ok (by decide +kernel)) (by decide) (fun hq => ?_) (fun hq => ?_)
        · have hb : ¬ jle x y := fun z => by
            rw [if_pos z] at hq
            exact absurd hq (by decide)
          exact ret ⟨hg, Or.inl hb⟩ ls
        have hb : jle x y := by
          by_cases z : jle x y
          · exact z
          · rw [if_neg z] at hq
            exact absurd rfl hq
        clear hq
        refine lv_aload_n (k := 0) hF.1 hF.2.1 (y_dcd_ok (by decide +kernel)) rfl (lv_at hl 4 rfl) ?_
        refine ggo (n := 3013) (index := 25) hF hs hc 93 (by decide) rfl 5 (by decide) (by decide +kernel) rfl (by decide +kernel) ?_
        refine lv_iload (i := 7) hF.1 hF.2.1 (y_dcd_ok (by decide +kernel)) (lv_at hl 2 rfl) ?_
        refine glald hF hs hT hc 97 148 (by decide) (by decide) hk8 (by decide +kernel) ?_
        rw [r4]
        refine lv_lload (i := 4) hF.1 hF.2.1 (y_dcd_ok (by decide +kernel)) (lv_at hl 8 rfl) ?_
        refine W.lcmp hF.1 hF.2.1 (y_dcd_ok (by decide +kernel)) ?_
        refine lv_if_gt (off := 4) (tgt := 119) hF.1 hF.2.1 (y_dcd_ok (by decide +kernel)) (by decide) (fun hq => ?_) (fun hq => ?_)
        · have h5 := (lg_cmp_nL (i := y.c) (j := x.c) (by omega) (by omega)).2.mp hq
          exact goon (fun z => by
            rcases z.2 with z | z
            · exact z hb
            · omega) ls hl
        · have h5 : ¬ x.c < y.c := fun z => hq ((lg_cmp_nL (i := y.c) (j := x.c) (by omega) (by omega)).2.mpr z)
          exact ret ⟨hg, Or.inr (by omega)⟩ ls
      -- the second test
      have at53 : ∀ ls : Array Slot, lv_has ls 10 [(7, .int (nI k)), (6, .int (nI kp)), (0, .ref (ad 93)), (1, .int (nI x.a)), (2, .int (nI x.m)), (3, .int (nI x.f)), (4, .long (nL x.c))] → W p l e (y_rm xOff) s m [Value.ref (ad 93), .int (nI x.a), .int (nI x.m), .int (nI x.f), .long (nL x.c)].toArray below meth c H locs 0 0 Q (F0 m 53 ls [.int (if jle y x then 1 else 0)]) := by
        intro ls hl
        refine lv_istore (nL := 10) (i := 8) hF.1 hF.2.1 (y_dcd_ok (by decide +kernel)) hl (by decide) rfl (fun ls hl => ?_)
        have no : ¬ jle x y → W p l e (y_rm xOff) s m [Value.ref (ad 93), .int (nI x.a), .int (nI x.m), .int (nI x.f), .long (nL x.c)].toArray below meth c H locs 0 0 Q (F0 m 92 ls []) := fun z => by
          refine lv_iconst (n := 0) (v := 0) hF.1 hF.2.1 (y_dcd_ok (by decide +kernel)) (by decide) ?_
          rw [← show (if jle x y then (1 : Int32) else 0) = 0 from if_neg z]
          refine lv_istore (nL := 10) (i := 9) hF.1 hF.2.1 (y_dcd_ok (by decide +kernel)) hl (by decide) rfl (fun ls hl => ?_)
          exact at95 ls (lv_sub hl [0, 1, 2, 3, 4, 5, 6, 7, 8] rfl)
        refine lv_aload_n (k := 0) hF.1 hF.2.1 (y_dcd_ok (by decide +kernel)) rfl (lv_at hl 3 rfl) ?_
        refine ggo (n := 3007) (index := 15) hF hs hc 93 (by decide) rfl 2 (by decide) (by decide +kernel) rfl (by decide +kernel) ?_
        refine lv_iload (i := 7) hF.1 hF.2.1 (y_dcd_ok (by decide +kernel)) (lv_at hl 1 rfl) ?_
        refine gald hF hs hT hc 94 148 (by decide) (by decide) hk8 (by decide +kernel) ?_
        rw [r1]
        refine lv_iload_n (k := 1) hF.1 hF.2.1 (y_dcd_ok (by decide +kernel)) rfl (lv_at hl 4 rfl) ?_
        refine lv_icmp_lt (off := 29) (tgt := 92) hF.1 hF.2.1 (y_dcd_ok (by decide +kernel)) (by decide) (fun hq => ?_) (fun hq => ?_)
        · have h5 := (dni_ltb (by omega) (by omega)).mp hq
          exact no (fun z => by unfold jle at z; omega)
        have ha : ¬ y.a < x.a := fun z => hq ((dni_ltb (by omega) (by omega)).mpr z)
        clear hq
        refine lv_aload_n (k := 0) hF.1 hF.2.1 (y_dcd_ok (by decide +kernel)) rfl (lv_at hl 3 rfl) ?_
        refine ggo (n := 3009) (index := 19) hF hs hc 93 (by decide) rfl 3 (by decide) (by decide +kernel) rfl (by decide +kernel) ?_
        refine lv_iload (i := 7) hF.1 hF.2.1 (y_dcd_ok (by decide +kernel)) (lv_at hl 1 rfl) ?_
        refine gald hF hs hT hc 95 148 (by decide) (by decide) hk8 (by decide +kernel) ?_
        rw [r2]
        refine lv_iload_n (k := 2) hF.1 hF.2.1 (y_dcd_ok (by decide +kernel)) rfl (lv_at hl 5 rfl) ?_
        refine lv_icmp_lt (off := 18) (tgt := 92) hF.1 hF.2.1 (y_dcd_ok (by decide +kernel)) (by decide) (fun hq => ?_) (fun hq => ?_)
        · have h5 := (dni_ltb (by omega) (by omega)).mp hq
          exact no (fun z => by unfold jle at z; omega)
        have hm : ¬ y.m < x.m := fun z => hq ((dni_ltb (by omega) (by omega)).mpr z)
        clear hq
        refine lv_aload_n (k := 0) hF.1 hF.2.1 (y_dcd_ok (by decide +kernel)) rfl (lv_at hl 3 rfl) ?_
        refine ggo (n := 3011) (index := 22) hF hs hc 93 (by decide) rfl 4 (by decide) (by decide +kernel) rfl (by decide +kernel) ?_
        refine lv_iload (i := 7) hF.1 hF.2.1 (y_dcd_ok (by decide +kernel)) (lv_at hl 1 rfl) ?_
        refine gald hF hs hT hc 96 148 (by decide) (by decide) hk8 (by decide +kernel) ?_
        rw [r3]
        refine lv_iload_n (k := 3) hF.1 hF.2.1 (y_dcd_ok (by decide +kernel)) rfl (lv_at hl 6 rfl) ?_
        refine lv_icmp_lt (off := 7) (tgt := 92) hF.1 hF.2.1 (y_dcd_ok (by decide +kernel)) (by decide) (fun hq => ?_) (fun hq => ?_)
        · have h5 := (dni_ltb (by omega) (by omega)).mp hq
          exact no (fun z => by unfold jle at z; omega)
        have hf : ¬ y.f < x.f := fun z => hq ((dni_ltb (by omega) (by omega)).mpr z)
        clear hq
        refine lv_iconst (n := 1) (v := 1) hF.1 hF.2.1 (y_dcd_ok (by decide +kernel)) (by decide) ?_
        refine lv_goto (off := 4) (tgt := 93) hF.1 hF.2.1 (y_dcd_ok (by decide +kernel)) (by decide) ?_
        rw [← show (if jle x y then (1 : Int32) else 0) = 1 from if_pos (by unfold jle; omega)]
        refine lv_istore (nL := 10) (i := 9) hF.1 hF.2.1 (y_dcd_ok (by decide +kernel)) hl (by decide) rfl (fun ls hl => ?_)
        exact at95 ls (lv_sub hl [0, 1, 2, 3, 4, 5, 6, 7, 8] rfl)
      have no : ¬ jle y x → W p l e (y_rm xOff) s m [Value.ref (ad 93), .int (nI x.a), .int (nI x.m), .int (nI x.f), .long (nL x.c)].toArray below meth c H locs 0 0 Q (F0 m 52 ls []) := fun z => by
        refine lv_iconst (n := 0) (v := 0) hF.1 hF.2.1 (y_dcd_ok (by decide +kernel)) (by decide) ?_
        rw [← show (if jle y x then (1 : Int32) else 0) = 0 from if_neg z]
        exact at53 ls hl
      refine lv_aload_n (k := 0) hF.1 hF.2.1 (y_dcd_ok (by decide +kernel)) rfl (lv_at hl 2 rfl) ?_
      refine ggo (n := 3007) (index := 15) hF hs hc 93 (by decide) rfl 2 (by decide) (by decide +kernel) rfl (by decide +kernel) ?_
      refine lv_iload (i := 7) hF.1 hF.2.1 (y_dcd_ok (by decide +kernel)) (lv_at hl 0 rfl) ?_
      refine gald hF hs hT hc 94 148 (by decide) (by decide) hk8 (by decide +kernel) ?_
      rw [r1]
      refine lv_iload_n (k := 1) hF.1 hF.2.1 (y_dcd_ok (by decide +kernel)) rfl (lv_at hl 3 rfl) ?_
      refine lv_icmp_gt (off := 29) (tgt := 52) hF.1 hF.2.1 (y_dcd_ok (by decide +kernel)) (by decide) (fun hq => ?_) (fun hq => ?_)
      · have h5 := (dni_ltb (by omega) (by omega)).mp hq
        exact no (fun z => by unfold jle at z; omega)
      have ga : ¬ x.a < y.a := fun z => hq ((dni_ltb (by omega) (by omega)).mpr z)
      clear hq
      refine lv_aload_n (k := 0) hF.1 hF.2.1 (y_dcd_ok (by decide +kernel)) rfl (lv_at hl 2 rfl) ?_
      refine ggo (n := 3009) (index := 19) hF hs hc 93 (by decide) rfl 3 (by decide) (by decide +kernel) rfl (by decide +kernel) ?_
      refine lv_iload (i := 7) hF.1 hF.2.1 (y_dcd_ok (by decide +kernel)) (lv_at hl 0 rfl) ?_
      refine gald hF hs hT hc 95 148 (by decide) (by decide) hk8 (by decide +kernel) ?_
      rw [r2]
      refine lv_iload_n (k := 2) hF.1 hF.2.1 (y_dcd_ok (by decide +kernel)) rfl (lv_at hl 4 rfl) ?_
      refine lv_icmp_gt (off := 18) (tgt := 52) hF.1 hF.2.1 (y_dcd_ok (by decide +kernel)) (by decide) (fun hq => ?_) (fun hq => ?_)
      · have h5 := (dni_ltb (by omega) (by omega)).mp hq
        exact no (fun z => by unfold jle at z; omega)
      have gm : ¬ x.m < y.m := fun z => hq ((dni_ltb (by omega) (by omega)).mpr z)
      clear hq
      refine lv_aload_n (k := 0) hF.1 hF.2.1 (y_dcd_ok (by decide +kernel)) rfl (lv_at hl 2 rfl) ?_
      refine ggo (n := 3011) (index := 22) hF hs hc 93 (by decide) rfl 4 (by decide) (by decide +kernel) rfl (by decide +kernel) ?_
      refine lv_iload (i := 7) hF.1 hF.2.1 (y_dcd_ok (by decide +kernel)) (lv_at hl 0 rfl) ?_
      refine gald hF hs hT hc 96 148 (by decide) (by decide) hk8 (by decide +kernel) ?_
      rw [r3]
      refine lv_iload_n (k := 3) hF.1 hF.2.1 (y_dcd_ok (by decide +kernel)) rfl (lv_at hl 5 rfl) ?_
      refine lv_icmp_gt (off := 7) (tgt := 52) hF.1 hF.2.1 (y_dcd_ok (by decide +kernel)) (by decide) (fun hq => ?_) (fun hq => ?_)
      · have h5 := (dni_ltb (by omega) (by omega)).mp hq
        exact no (fun z => by unfold jle at z; omega)
      have gf : ¬ x.f < y.f := fun z => hq ((dni_ltb (by omega) (by omega)).mpr z)
      clear hq
      refine lv_iconst (n := 1) (v := 1) hF.1 hF.2.1 (y_dcd_ok (by decide +kernel)) (by decide) ?_
      refine lv_goto (off := 4) (tgt := 53) hF.1 hF.2.1 (y_dcd_ok (by decide +kernel)) (by decide) ?_
      rw [← show (if jle y x then (1 : Int32) else 0) = 1 from if_pos (by unfold jle; omega)]
      exact at53 ls hl
  refine lv_iconst (n := 0) (v := 0) hF.1 hF.2.1 (y_dcd_ok (by decide +kernel)) (by decide) ?_
  refine lv_istore (nL := 10) (i := 6) hF.1 hF.2.1 (y_dcd_ok (by decide +kernel)) hl (by decide) rfl (fun ls hl => ?_)
  refine lv_iconst (n := 0) (v := 0) hF.1 hF.2.1 (y_dcd_ok (by decide +kernel)) (by decide) ?_
  refine lv_istore (nL := 10) (i := 7) hF.1 hF.2.1 (y_dcd_ok (by decide +kernel)) hl (by decide) rfl (fun ls hl => ?_)
  exact loop1 K.length 0 (by omega) (fun y hy => by simp at hy) _ _ cw V L ls hs hc ⟨fun _ _ => rfl, fun _ _ => rfl⟩ (fun j y hj => by simp at hj) (fun j y _ hj => (hro j y hj).1) (lv_sub hl [0, 1, 2, 3, 4, 5, 6] rfl)
end YC
