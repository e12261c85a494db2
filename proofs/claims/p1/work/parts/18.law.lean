/-! THE CLAIM OUT OF ONE WALK OF THE LAW'S BODY. Your part is whole_start (and what it stands on); all else here is the same for every law, but numbers. -/
def R_law : String := "RailwayHouseLaw"
def lw_P (b : Addr) (xs : List Int32) (args : Array Value) (s : State) : Prop := args = #[.ref b] ∧ s.IntsAt b xs ∧ xs.length ≤ 6 ∧ (Jvm.Cond.and given_1 narrow_1).before args s = true
def lw_Q (_ : Array Value) (s : State) (o : Outcome) (t : State) : Prop := o = .returned (some (.int 1)) ∧ Framed s o t [] 600000 7302250
def lw_Z (below : List Frame) (a : Array Value) (s : State) : State → Prop := fun t => ∃ o, t.status = .running ∧ Ended t below o ∧ lw_Q a s o t
/-- the law's own end, with 1 on the stack, nothing written that was there before, its room as the claim has it -/
theorem lw_ret {p : Program} {l : Launch} {e : Env} {s : State} {m : MethodId} {below : List Frame} {meth : Method} {c : Code} {b : Nat} (hx : p.tables.exec = Jvm.exec) (hb : c.code = code) (hr : meth.sig.returnType = ret) (hlocks : meth.locks = false) {pc : Nat} {H : Heap} {ls : Array Slot} (hdg : decode code pc = .ok (.ireturn, 1)) : W p l e room_1 s m #[Value.ref b] below meth c H [] 600000 7302250 (lw_Z below #[Value.ref b] s) (F0 m pc ls [.int 1]) := by
  intro T hT X
  obtain ⟨fs, hret, hrun, hended, hW, hframe⟩ := X.leave (v := some (.int 1)) (hlocks := hlocks) (fun h => by rw [hr] at h; cases h)
  have hmeth' : T.vm.method? m = some meth := X.method'
  refine ⟨T.setFrames fs, ?_, .returned (some (.int 1)), hrun, hended, rfl, ⟨_, rfl⟩, hW, hframe⟩
  jvm_step X.here [X.here.top, hx, hb, hdg, hmeth', hr, ret, narrow_b1]
  (try refine ⟨rfl, ?_⟩); (try refine ⟨rfl, ?_⟩)
  first | (intro acts; rw [hret _ acts rfl rfl rfl]) | rw [hret _ _ rfl rfl rfl]
  exact Steps.refl _
/-- what holds at the law's entry: the machine, the code, the tables' words (any of lw_tbl by 'hts w (by decide +kernel)'), the script of L ints xs at the cell b, what the Statement gives of the start (any of its parts by flat_of_before) -/
def lw_At (p : Program) (s : State) (m : MethodId) (meth : Method) (c : Code) (b L : Nat) (xs : Nat → Int32) : Prop :=
  p.tables.exec = Jvm.exec ∧ c.code = code ∧ meth.sig.returnType = ret ∧ c.maxLocals = 4 ∧ s.vm.findClass R_law = some m.cls ∧ (∀ w ∈ lw_tbl, w.before #[Value.ref b] s = true) ∧ va_X b L xs s s.heap ∧ b < s.heap.size ∧ meth.locks = false ∧ (Jvm.Cond.and given_1 narrow_1).before #[Value.ref b] s = true
theorem ztb_flat : ztb.flatten = lw_tbl := by
  simp only [ztb, List.flatten_cons, List.flatten_nil, List.append_nil, lw_tbl, tables_1]
theorem z_b_lt (x : Int32) : z_b x ≤ 4294967295 := by
  unfold z_b
  omega
theorem zE6_ok (sg : Nat → Int32) : z_erel sg zE6 := by
  intro i q h
  have h1 : q ∈ zE6 := List.mem_of_getElem? h
  have h2 : q = (0, 4294967295) := by
    simpa [zE6] using h1
  subst h2
  exact ⟨Nat.zero_le _, z_b_lt _⟩
theorem z_box (sg : Nat → Int32) {a b c d : Nat} (h1 : a ≤ z_b (sg 1)) (h2 : z_b (sg 1) ≤ b) (h3 : c ≤ z_b (sg 2)) (h4 : z_b (sg 2) ≤ d) : z_erel sg [(0, 4294967295), (a, b), (c, d), (0, 4294967295), (0, 4294967295), (0, 4294967295)] := by
  intro i q h
  match i, h with
  | 0, h => cases h; exact ⟨Nat.zero_le _, z_b_lt _⟩
  | 1, h => cases h; exact ⟨h1, h2⟩
  | 2, h => cases h; exact ⟨h3, h4⟩
  | 3, h => cases h; exact ⟨Nat.zero_le _, z_b_lt _⟩
  | 4, h => cases h; exact ⟨Nat.zero_le _, z_b_lt _⟩
  | 5, h => cases h; exact ⟨Nat.zero_le _, z_b_lt _⟩
  | i + 6, h => simp at h

set_option maxRecDepth 100000 in
theorem zcd0_in : ∀ x ∈ zcd0, x ∈ z_cd zmL := fun x hx => List.drop_subset 0 _ (List.take_subset 3 _ (show x ∈ ((z_cd zmL).drop 0).take 3 from hx))
set_option maxRecDepth 100000 in
theorem zcd7_in : ∀ x ∈ zcd7, x ∈ z_cd zmL := fun x hx => List.drop_subset 3 _ (List.take_subset 7 _ (show x ∈ ((z_cd zmL).drop 3).take 7 from hx))
set_option maxRecDepth 100000 in
theorem zcd18_in : ∀ x ∈ zcd18, x ∈ z_cd zmL := fun x hx => List.drop_subset 10 _ (List.take_subset 11 _ (show x ∈ ((z_cd zmL).drop 10).take 11 from hx))
set_option maxRecDepth 100000 in
theorem zcd1767_in : ∀ x ∈ zcd1767, x ∈ z_cd zmL := fun x hx => List.drop_subset 1133 _ (List.take_subset 2 _ (show x ∈ ((z_cd zmL).drop 1133).take 2 from hx))
theorem zd_33 : decode code 33 = .ok (.tableswitch 1747 0 49 #[215, 278, 301, 314, 327, 360, 393, 426, 459, 492, 525, 548, 571, 594, 627, 670, 693, 736, 769, 802, 835, 848, 871, 920, 983, 1032, 1065, 1088, 1111, 1134, 1167, 1180, 1193, 1206, 1219, 1262, 1285, 1338, 1381, 1414, 1457, 1510, 1533, 1556, 1589, 1652, 1665, 1678, 1711, 1734], 215) := by decide +kernel
set_option maxHeartbeats 4000000 in
theorem whole_start {p : Program} {e : Env} {s : State} {m : MethodId} {below : List Frame} {meth : Method} {c : Code} (l : Launch) {b L : Nat} {xs : Nat → Int32} (hL : L ≤ 6) (C0 : lw_At p s m meth c b L xs) : W p l e room_1 s m #[Value.ref b] below meth c s.heap [] 0 0 (lw_Z below #[Value.ref b] s) (entryFrame m ([Value.ref b] : List Value).toArray 4) := by
  obtain ⟨hx, hb, hr, hml, hown, hts, hX, hbl, hlocks, hgv⟩ := id C0
  have hG : ∀ w ∈ z_G ztb, w.before #[Value.ref b] s = true := fun w hw => hts w (by rw [← ztb_flat]; exact (List.mem_filter.mp hw).1)
  have hN : z_NW znw s := ⟨fun a i y h hm => va_Nw.of rfl (hts _ (by rw [← ztb_flat]; exact znw_in _ hm)), fun C hm => va_AO.of (hts _ (by rw [← ztb_flat]; exact znw_in _ hm))⟩
  have hk : ∀ ci : Nat, ∃ q : ClassId × (Nat → Nat), ∀ c : vw_C, zcls[ci]? = some c → u_Kn s c.1 c.2.1 c.2.2 q.1 q.2 := by
    intro ci
    cases hc : zcls[ci]? with
    | none => exact ⟨(m.cls, fun _ => 0), fun c h => by cases h⟩
    | some c0 =>
      obtain ⟨f1, f2, f3, f4, f5⟩ := zCF ci c0 hc
      obtain ⟨cC, iS, h⟩ := u_known (C := c0.1) (T := c0.2.1) (N := c0.2.2) (n := c0.2.2) hG f1 (hG _ f3)
      exact ⟨(cC, iS), fun c h' => by cases h'; exact h⟩
  obtain ⟨D, hD⟩ : ∃ D : va_G, ∀ (k : Nat) (q : vw_C), zcls[k]? = some q → u_Kn s q.1 q.2.1 q.2.2 (D.1 k) (D.2 k) := ⟨(fun k => (Classical.choose (hk k)).1, fun k => (Classical.choose (hk k)).2), fun k q h => Classical.choose_spec (hk k) q h⟩
  have hS : ∀ n, z_Snd ztb znw zcls zzty zzdv zms l D xs b n := z_snd zAll
  have hF : ∀ (n : Nat) (st : zKS), (n = 0 ∨ n = L + 1) → z_Fix ztb znw zcls zms xs b p room_1 s m #[Value.ref b] meth c (fun q : Nat => s.heap.size ≤ q) (n, st) zmL := fun n st hn =>
    ⟨hx, hb, hml, hown, hG, fun h => absurd h (by decide), rfl, hN, fun _ h => h, List.all_eq_true.mp zlaw_all, fun L' h => by
      have h : n = L' + 1 := h
      rcases hn with hn | hn
      · omega
      · have : L' = L := by omega
        subst this
        exact ⟨hX, hbl, Nat.not_le.mpr hbl⟩⟩
  have hE : z_End zcls l D xs b p e room_1 s m #[Value.ref b] below meth c (fun q : Nat => s.heap.size ≤ q) [] zmL (lw_Z below #[Value.ref b] s) z_k0 := by
    intro H locs cw tys ls cst pc ce sl env w r hSt hce hsl hk hret
    have hloc : ∀ q ∈ locs, s.heap.size ≤ q.base := hSt.2.2.2.1.2.2
    rcases hret with ⟨rfl, -, -, -⟩ | ⟨a, x, ty, rfl, rfl, h3, h4, h5, h6⟩ | ⟨a, v, ty, rfl, rfl, h3, h4, h5, h6, h7⟩
    · exact absurd (show false = true from hk) Bool.false_ne_true
    · match a, h3, hk with
      | .inl u, h3, hk =>
        have hu : u = 1 := Nat.eq_of_beq_eq_true hk
        subst hu
        have h3 : Value.int x = .int (nI 1) := h3
        cases h3
        exact va_forget hloc (W.widen hce hsl (lw_ret hx hb hr hlocks h6))
      | .inr _, _, hk => exact absurd (show false = true from hk) Bool.false_ne_true
    · match a, h3, hk with
      | .inl u, h3, hk =>
        have h3 : v = .int (nI u) := h3
        subst h3
        rcases h4 with h4 | ⟨q, h4⟩ <;> cases h4
      | .inr _, _, hk => exact absurd (show false = true from hk) Bool.false_ne_true
  have hno : ∀ n, z_Stop zcls l D xs b p e room_1 s m #[Value.ref b] below meth c (fun q : Nat => s.heap.size ≤ q) [] (n, z_nos) zmL (lw_Z below #[Value.ref b] s) := fun n H locs cw tys ls cst pc lo st ce sl env w _ _ _ _ h => absurd (show false = true from h) Bool.false_ne_true
  have hj : ∀ t, ∀ x ∈ z_from (z_cd zmL) t, x ∈ z_cd zmL := fun t => z_from_sub _ t
  -- behind the switch
  have hcalls : ∀ v, v < 50 → L = 6 → ∀ (H : Heap) (locs : List Loc) (cw : va_W) (tys : List (ClassId × FieldType)) (ls : Array Slot), z_St zcls D xs b s (fun q : Nat => s.heap.size ≤ q) [] H locs zw2 zE6 cw tys → z_Fr xs b cw 4 ls zlo18 [] [] → W p l e room_1 s m #[Value.ref b] below meth c H locs 224 26096 (lw_Z below #[Value.ref b] s) (F0 m 33 ls [.int (nI v)]) := by
    intro v hv h6 H locs cw tys ls hSt hFr
    have hFr1 : z_Fr xs b cw 4 ls zlo18 [.inl v] [.int (nI v)] := ⟨hFr.1, rfl, trivial⟩
    have run : ∀ {n : Nat} {env : zEnv}, z_ev zcls zzty zzdv zms n (7, z_nos) zmL (z_from (z_cd zmL) 33) 33 zlo18 [.inl v] 224 26096 env zw2 z_k0 = true → z_erel xs env → W p l e room_1 s m #[Value.ref b] below meth c H locs 224 26096 (lw_Z below #[Value.ref b] s) (F0 m 33 ls [.int (nI v)]) := fun {n env} h he => hS n p e room_1 s m #[Value.ref b] below meth c _ [] (7, z_nos) zmL _ (hF 7 z_nos (Or.inr (by omega))) z_k0 hE (hno 7) H locs cw tys ls _ _ 33 zlo18 _ 224 26096 env zw2 (hj 33) ⟨hSt.1, hSt.2.1, hSt.2.2.1, hSt.2.2.2.1, hSt.2.2.2.2.1, he, hSt.2.2.2.2.2.2⟩ hFr1 (by decide) (by decide) h
    have hv' : v = 0 ∨ v = 1 ∨ v = 2 ∨ v = 3 ∨ v = 4 ∨ v = 5 ∨ v = 6 ∨ v = 7 ∨ v = 8 ∨ v = 9 ∨ v = 10 ∨ v = 11 ∨ v = 12 ∨ v = 13 ∨ v = 14 ∨ v = 15 ∨ v = 16 ∨ v = 17 ∨ v = 18 ∨ v = 19 ∨ v = 20 ∨ v = 21 ∨ v = 22 ∨ v = 23 ∨ v = 24 ∨ v = 25 ∨ v = 26 ∨ v = 27 ∨ v = 28 ∨ v = 29 ∨ v = 30 ∨ v = 31 ∨ v = 32 ∨ v = 33 ∨ v = 34 ∨ v = 35 ∨ v = 36 ∨ v = 37 ∨ v = 38 ∨ v = 39 ∨ v = 40 ∨ v = 41 ∨ v = 42 ∨ v = 43 ∨ v = 44 ∨ v = 45 ∨ v = 46 ∨ v = 47 ∨ v = 48 ∨ v = 49 := by omega
    rcases hv' with rfl | rfl | rfl | rfl | rfl | rfl | rfl | rfl | rfl | rfl | rfl | rfl | rfl | rfl | rfl | rfl | rfl | rfl | rfl | rfl | rfl | rfl | rfl | rfl | rfl | rfl | rfl | rfl | rfl | rfl | rfl | rfl | rfl | rfl | rfl | rfl | rfl | rfl | rfl | rfl | rfl | rfl | rfl | rfl | rfl | rfl | rfl | rfl | rfl | rfl
    · exact run zv_0 (zE6_ok xs)
    · exact run zv_1 (zE6_ok xs)
    · exact run zv_2 (zE6_ok xs)
    · exact run zv_3 (zE6_ok xs)
    · exact run zv_4 (zE6_ok xs)
    · exact run zv_5 (zE6_ok xs)
    · exact run zv_6 (zE6_ok xs)
    · exact run zv_7 (zE6_ok xs)
    · exact run zv_8 (zE6_ok xs)
    · exact run zv_9 (zE6_ok xs)
    · exact run zv_10 (zE6_ok xs)
    · exact run zv_11 (zE6_ok xs)
    · exact run zv_12 (zE6_ok xs)
    · exact run zv_13 (zE6_ok xs)
    · exact run zv_14 (zE6_ok xs)
    · exact run zv_15 (zE6_ok xs)
    · exact run zv_16 (zE6_ok xs)
    · exact run zv_17 (zE6_ok xs)
    · exact run zv_18 (zE6_ok xs)
    · exact run zv_19 (zE6_ok xs)
    · exact run zv_20 (zE6_ok xs)
    · exact run zv_21 (zE6_ok xs)
    · exact run zv_22 (zE6_ok xs)
    · exact run zv_23 (zE6_ok xs)
    · exact run zv_24 (zE6_ok xs)
    · exact run zv_25 (zE6_ok xs)
    · exact run zv_26 (zE6_ok xs)
    · exact run zv_27 (zE6_ok xs)
    · exact run zv_28 (zE6_ok xs)
    · exact run zv_29 (zE6_ok xs)
    · exact run zv_30 (zE6_ok xs)
    · exact run zv_31 (zE6_ok xs)
    · exact run zv_32 (zE6_ok xs)
    · exact run zv_33 (zE6_ok xs)
    · exact run zv_34 (zE6_ok xs)
    · exact run zv_35 (zE6_ok xs)
    · exact run zv_36 (zE6_ok xs)
    · by_cases h1 : z_b (xs 1) < 2147483648
      · exact run zj_0 (z_box xs (Nat.zero_le _) (by omega) (Nat.zero_le _) (z_b_lt _))
      by_cases h2 : 2147483656 ≤ z_b (xs 1)
      · exact run zj_1 (z_box xs h2 (z_b_lt _) (Nat.zero_le _) (z_b_lt _))
      have h3 : z_b (xs 1) = 2147483648 ∨ z_b (xs 1) = 2147483649 ∨ z_b (xs 1) = 2147483650 ∨ z_b (xs 1) = 2147483651 ∨ z_b (xs 1) = 2147483652 ∨ z_b (xs 1) = 2147483653 ∨ z_b (xs 1) = 2147483654 ∨ z_b (xs 1) = 2147483655 := by omega
      rcases h3 with h3 | h3 | h3 | h3 | h3 | h3 | h3 | h3
      · by_cases h4 : z_b (xs 2) < 2147483648
        · exact run zj_2 (z_box xs (by omega) (by omega) (Nat.zero_le _) (by omega))
        by_cases h5 : z_b (xs 2) = 2147483648
        · exact run zj_3 (z_box xs (by omega) (by omega) (by omega) (by omega))
        exact run zj_4 (z_box xs (by omega) (by omega) (by omega) (z_b_lt _))
      · by_cases h4 : z_b (xs 2) < 2147483649
        · exact run zj_5 (z_box xs (by omega) (by omega) (Nat.zero_le _) (by omega))
        by_cases h5 : z_b (xs 2) = 2147483649
        · exact run zj_6 (z_box xs (by omega) (by omega) (by omega) (by omega))
        exact run zj_7 (z_box xs (by omega) (by omega) (by omega) (z_b_lt _))
      · by_cases h4 : z_b (xs 2) < 2147483650
        · exact run zj_8 (z_box xs (by omega) (by omega) (Nat.zero_le _) (by omega))
        by_cases h5 : z_b (xs 2) = 2147483650
        · exact run zj_9 (z_box xs (by omega) (by omega) (by omega) (by omega))
        exact run zj_10 (z_box xs (by omega) (by omega) (by omega) (z_b_lt _))
      · by_cases h4 : z_b (xs 2) < 2147483651
        · exact run zj_11 (z_box xs (by omega) (by omega) (Nat.zero_le _) (by omega))
        by_cases h5 : z_b (xs 2) = 2147483651
        · exact run zj_12 (z_box xs (by omega) (by omega) (by omega) (by omega))
        exact run zj_13 (z_box xs (by omega) (by omega) (by omega) (z_b_lt _))
      · by_cases h4 : z_b (xs 2) < 2147483652
        · exact run zj_14 (z_box xs (by omega) (by omega) (Nat.zero_le _) (by omega))
        by_cases h5 : z_b (xs 2) = 2147483652
        · exact run zj_15 (z_box xs (by omega) (by omega) (by omega) (by omega))
        exact run zj_16 (z_box xs (by omega) (by omega) (by omega) (z_b_lt _))
      · by_cases h4 : z_b (xs 2) < 2147483653
        · exact run zj_17 (z_box xs (by omega) (by omega) (Nat.zero_le _) (by omega))
        by_cases h5 : z_b (xs 2) = 2147483653
        · exact run zj_18 (z_box xs (by omega) (by omega) (by omega) (by omega))
        exact run zj_19 (z_box xs (by omega) (by omega) (by omega) (z_b_lt _))
      · by_cases h4 : z_b (xs 2) < 2147483654
        · exact run zj_20 (z_box xs (by omega) (by omega) (Nat.zero_le _) (by omega))
        by_cases h5 : z_b (xs 2) = 2147483654
        · exact run zj_21 (z_box xs (by omega) (by omega) (by omega) (by omega))
        exact run zj_22 (z_box xs (by omega) (by omega) (by omega) (z_b_lt _))
      · by_cases h4 : z_b (xs 2) < 2147483655
        · exact run zj_23 (z_box xs (by omega) (by omega) (Nat.zero_le _) (by omega))
        by_cases h5 : z_b (xs 2) = 2147483655
        · exact run zj_24 (z_box xs (by omega) (by omega) (by omega) (by omega))
        exact run zj_25 (z_box xs (by omega) (by omega) (by omega) (z_b_lt _))
    · exact run zv_38 (zE6_ok xs)
    · exact run zv_39 (zE6_ok xs)
    · exact run zv_40 (zE6_ok xs)
    · exact run zv_41 (zE6_ok xs)
    · exact run zv_42 (zE6_ok xs)
    · exact run zv_43 (zE6_ok xs)
    · exact run zv_44 (zE6_ok xs)
    · exact run zv_45 (zE6_ok xs)
    · exact run zv_46 (zE6_ok xs)
    · exact run zv_47 (zE6_ok xs)
    · exact run zv_48 (zE6_ok xs)
    · refine lv_tableIn hx hb zd_33 (by decide) (by decide) (off := 1734) (tgt := 1767) (by decide +kernel) (by decide) ?_
      refine hS 60000 p e room_1 s m #[Value.ref b] below meth c _ [] (7, z_eqS 1771 zlo18 [.inl 0] 224 26096 zE6 zw3) zmL _ (hF 7 _ (Or.inr (by omega))) z_k0 hE ?_ H locs cw tys ls _ _ 1767 zlo18 _ 224 26096 zE6 zw2 zcd1767_in hSt hFr (by decide) (by decide) zk_1
      intro H locs cw tys ls cst pc lo st ce sl env w hSt hFr hce hsl h
      obtain ⟨rfl, rfl, rfl, rfl, rfl, rfl, rfl⟩ := z_eqS_ok h
      exact hS 60000 p e room_1 s m #[Value.ref b] below meth c _ [] (7, z_nos) zmL _ (hF 7 z_nos (Or.inr (by omega))) z_k0 hE (hno 7) H locs cw tys ls _ _ 1771 zlo18 _ _ _ zE6 zw3 (hj 1771) hSt hFr (by decide) (by decide) zk_2
  have h33 : L = 6 → ∀ (H : Heap) (locs : List Loc) (cw : va_W) (tys : List (ClassId × FieldType)) (ls : Array Slot) (x : Int32), z_St zcls D xs b s (fun q : Nat => s.heap.size ≤ q) [] H locs zw2 zE6 cw tys → z_Fr xs b cw 4 ls zlo18 [] [] → W p l e room_1 s m #[Value.ref b] below meth c H locs 224 26096 (lw_Z below #[Value.ref b] s) (F0 m 33 ls [.int x]) := by
    intro h6 H locs cw tys ls x hSt hFr
    by_cases hr : x.toInt < 0 ∨ 49 < x.toInt
    · exact lv_tableOut hx hb zd_33 hr rfl (hS 1000 p e room_1 s m #[Value.ref b] below meth c _ [] (7, z_nos) zmL _ (hF 7 z_nos (Or.inr (by omega))) z_k0 hE (hno 7) H locs cw tys ls _ _ 1780 zlo18 _ 224 26096 zE6 zw2 (hj 1780) hSt hFr (by decide) (by decide) zs_out)
    · have h1 := z_b_int x
      have h2 := z_bu_b x
      have h3 : z_bu (z_b x) < 50 := by
        unfold z_bu
        omega
      have h4 := hcalls _ h3 h6 H locs cw tys ls hSt hFr
      rw [h2] at h4
      exact h4
  have h18 : ∀ (H : Heap) (locs : List Loc) (cw : va_W) (tys : List (ClassId × FieldType)) (ls : Array Slot) (cst : List Value), z_St zcls D xs b s (fun q : Nat => s.heap.size ≤ q) [] H locs zw2 zE6 cw tys → z_Fr xs b cw 4 ls zlo18 [] cst → W p l e room_1 s m #[Value.ref b] below meth c H locs 224 26096 (lw_Z below #[Value.ref b] s) (F0 m 18 ls cst) := by
    intro H locs cw tys ls cst hSt hFr
    have hl : L = 0 ∨ L = 1 ∨ L = 2 ∨ L = 3 ∨ L = 4 ∨ L = 5 ∨ L = 6 := by omega
    have run : z_ev zcls zzty zzdv zms 1000 (L + 1, z_nos) zmL zcd18 18 zlo18 [] 224 26096 zE6 zw2 z_k0 = true → W p l e room_1 s m #[Value.ref b] below meth c H locs 224 26096 (lw_Z below #[Value.ref b] s) (F0 m 18 ls cst) := fun h => hS 1000 p e room_1 s m #[Value.ref b] below meth c _ [] (L + 1, z_nos) zmL _ (hF _ z_nos (Or.inr rfl)) z_k0 hE (hno _) H locs cw tys ls _ _ 18 zlo18 _ 224 26096 zE6 zw2 zcd18_in hSt hFr (by decide) (by decide) h
    rcases hl with rfl | rfl | rfl | rfl | rfl | rfl | rfl
    · exact run zs_18_0
    · exact run zs_18_1
    · exact run zs_18_2
    · exact run zs_18_3
    · exact run zs_18_4
    · exact run zs_18_5
    · refine hS 1000 p e room_1 s m #[Value.ref b] below meth c _ [] (7, z_eqS 33 zlo18 [z_any] 224 26096 zE6 zw2) zmL _ (hF 7 _ (Or.inr rfl)) z_k0 hE ?_ H locs cw tys ls _ _ 18 zlo18 _ 224 26096 zE6 zw2 zcd18_in hSt hFr (by decide) (by decide) zs_18_6
      intro H locs cw tys ls cst pc lo st ce sl env w hSt hFr hce hsl h
      obtain ⟨rfl, rfl, rfl, rfl, rfl, rfl, rfl⟩ := z_eqS_ok h
      obtain ⟨v1, c2, rfl, ⟨x, rfl⟩, g2⟩ := z_SR_cons hFr.2
      have := z_SR_nil g2
      subst this
      exact h33 rfl H locs cw tys ls x hSt ⟨hFr.1, trivial⟩
  have h7 : ∀ (H : Heap) (locs : List Loc) (cw : va_W) (tys : List (ClassId × FieldType)) (ls : Array Slot) (cst : List Value), z_St zcls D xs b s (fun q : Nat => s.heap.size ≤ q) [] H locs zw1 zE6 cw tys → z_Fr xs b cw 4 ls zlo7 [z_rf 0] cst → W p l e room_1 s m #[Value.ref b] below meth c H locs 114 10532 (lw_Z below #[Value.ref b] s) (F0 m 7 ls cst) := by
    intro H locs cw tys ls cst hSt hFr
    refine hS 60000 p e room_1 s m #[Value.ref b] below meth c _ [] (0, z_eqS 18 zlo18 [] 224 26096 zE6 zw2) zmL _ (hF 0 _ (Or.inl rfl)) z_k0 hE ?_ H locs cw tys ls _ _ 7 zlo7 _ 114 10532 zE6 zw1 zcd7_in hSt hFr (by decide) (by decide) zs_7
    intro H locs cw tys ls cst pc lo st ce sl env w hSt hFr hce hsl h
    obtain ⟨rfl, rfl, rfl, rfl, rfl, rfl, rfl⟩ := z_eqS_ok h
    exact h18 H locs cw tys ls cst hSt hFr
  rw [lg_entry_eq]
  have hl := lv_entry ([.ref b]) (n := 4) (Nat.le_of_ble_eq_true rfl)
  refine hS 60000 p e room_1 s m #[Value.ref b] below meth c _ [] (0, z_eqS 7 zlo7 [z_rf 0] 114 10532 zE6 zw1) zmL _ (hF 0 _ (Or.inl rfl)) z_k0 hE ?_ s.heap [] [] [] _ [] _ 0 [(0, z_scr)] [] 0 0 zE6 [] zcd0_in ⟨⟨hD, fun k q h => by simp at h⟩, fun k q h => by simp at h, ⟨fun i j p q h => by simp at h, fun k q h => by simp at h⟩, va_S.rf, trivial, zE6_ok xs, fun _ _ h => h⟩ ⟨⟨_, hl, ⟨rfl, rfl, rfl⟩, trivial⟩, trivial⟩ (by decide) (by decide) zs_0
  intro H locs cw tys ls cst pc lo st ce sl env w hSt hFr hce hsl h
  obtain ⟨rfl, rfl, rfl, rfl, rfl, rfl, rfl⟩ := z_eqS_ok h
  exact h7 H locs cw tys ls cst hSt hFr
set_option maxHeartbeats 4000000 in
theorem lw_walk (l : Launch) (b : Addr) (xs : List Int32) : MetFree l x (headSpec (Jvm.Cond.code x code maxLocals ret :: tables_1) room_1) (lw_P b xs) (fun _ _ _ _ _ => True) lw_Q := by
  refine MetFree.of_bodyS (code := code) (maxLocals := maxLocals) (ret := ret) (by decide) ?_ ?_
  · intro args s m h hn
    obtain ⟨meth, c, h1, h2, h3, h4, h5, h6, -, -⟩ := Cond.code_spec hn (atoms_spec (ws := Jvm.Cond.code x code maxLocals ret :: tables_1) h _ List.mem_cons_self)
    exact ⟨meth, c, h1, h2, h3, h4, h5, h6⟩
  · intro p e s m args below meth c s₁ B hml0 hP _
    obtain ⟨rfl, hx, hbd, hgv⟩ := hP
    obtain ⟨scr, harrAt, hlist, hof, hsmall⟩ := hx
    obtain ⟨hcb, hkn, -, -⟩ := State.arrayAt?_spec harrAt
    have hown : s.vm.findClass R_law = some m.cls := findClass_of_methodNamed B.named
    have hts0 : ∀ c ∈ (Jvm.Cond.code x code maxLocals ret :: tables_1), c.before #[Value.ref b] s = true := atoms_spec (ws := Jvm.Cond.code x code maxLocals ret :: tables_1) B.pre
    have hts : ∀ w ∈ lw_tbl, w.before #[Value.ref b] s = true := k2_hts_sels lw_privs (fun w hw => hts0 w (List.mem_cons_of_mem _ hw)) lw_privs_ok
    have hml : c.maxLocals = 4 := B.maxLocals_eq (hts0 _ List.mem_cons_self)
    have X₀ : Stand p l e room_1 s m #[Value.ref b] below meth c s₁ [] 0 0 := Stand.of_body B
    have hh0 : s₁.heap = s.heap := by rw [B.state]; rfl
    have hsz : scr.slots.size = xs.length := by rw [← Array.length_toList, hlist, List.length_map]
    have hval : ∀ j : Nat, j < xs.length → scr.slots[j]? = some (.int (xs.getD j 0)) := fun j hj => by
      rw [← Array.getElem?_toList, hlist]
      simp [hj]
    have hbl : b < s.heap.size := (Array.getElem?_eq_some_iff.mp hcb).1
    have hX : va_X b xs.length (fun j => xs.getD j 0) s s.heap := ⟨scr, hcb, hof, hkn, hsz, hval⟩
    have K : W p l e room_1 s m #[Value.ref b] below meth c s₁.heap [] 0 0 (lw_Z below #[Value.ref b] s) (entryFrame m ([Value.ref b] : List Value).toArray 4) := by
      rw [hh0]
      exact whole_start l hbd ⟨B.exec, B.bytes, B.returns, hml, hown, hts, hX, hbl, B.notSynchronized, hgv⟩
    obtain ⟨t, a1, o, b1, b2, b3⟩ := K s₁ rfl X₀
    exact ⟨t, o, a1, b1, b2, b3⟩
theorem lw_pre_spec {args : Array Value} {s : State} (h : (Jvm.Cond.and given_1 narrow_1).before args s = true) (hr : rest_1_c.before args s = true) : ∃ (b : Addr) (xs : List Int32), lw_P b xs args s := by
  have hs := flat_of_before _ h
  have hq := flat_of_before _ hr
  have hc : (Cond.count 1).before args s = true := hs _ (by decide +kernel)
  have harr : (Cond.arrayOf (.arg 0) .int).before args s = true := hs _ (by decide +kernel)
  have hle : (Cond.le (.length (.arg 0)) (.int 6)).before args s = true := hs _ (by decide +kernel)
  have hlen : (Cond.isInt (.length (.arg 0))).before args s = true := hq _ (by decide +kernel)
  have hall : (Cond.all (.arg 0) (.isInt (.elem (.arg 0) (.index 0)))).before args s = true := hq _ (by decide +kernel)
  obtain ⟨b, xs, hb, hx⟩ := State.ints_of_pre rfl harr hlen hall
  have hsm : xs.length < 2 ^ 31 := hx.choose_spec.2.2.2
  have hev : (Term.length (.arg 0)).eval args s none [] s = some (.int xs.length.toInt32) := hx.length_eval hb
  have hv := Cond.le_ints hev (show (Term.int 6).eval args s none [] s = some (.int 6) from rfl)
  have hd : xs.length.toInt32 ≤ 6 := by
    simpa [Cond.before, Cond.holds, hv] using hle
  have hN : xs.length ≤ 6 := (Int32.ofNat_le_ofNat hsm (by decide)).mp (show Int32.ofNat xs.length ≤ Int32.ofNat 6 from hd)
  exact ⟨b, xs, Cond.one_arg hc (show args[0]? = some (.ref b) from hb), hx, hN, h⟩
theorem lw_comes (l : Launch) : Comes l x (Jvm.Cond.code x code maxLocals ret :: tables_1) room_1 (fun tb e args s => Calls_1 tb e args s ∧ rest_1 tb e args s ∧ Pre_1 tb e args s)
    (fun _ _ args s o t => lw_Q args s o t) := by
  intro p e ha hc hk s m args below hf hfit hheap happ hpre
  obtain ⟨b, xs, hP⟩ := lw_pre_spec hpre.2.2 hpre.2.1
  obtain ⟨k, o, h1, h2, h3, hQ⟩ := lw_walk l b xs p e ha hc hk s m args below hf ((Spec.applies_iff_loose hf).mp happ).1 hP trivial
  exact ⟨k, o, h1, h2, h3, hQ⟩
theorem lw_frame {s t : State} {o : Outcome} {args : Array Value} (h : Framed s o t [] 600000 7302250) :
    Framed s o t (fieldLocs frame_1_writes args s ++ arrayLocs frame_1_arrays args s ++ staticLocs frame_1_statics s) 600000 7302250 := h
theorem lw_limb (L : Cond) (hL : ∀ (args : Array Value) (s t : State), L.after args s (.returned (some (.int 1))) t = true) :
    ArmFor flags0 classFile x code maxLocals ret World_1 tables_1 room_1 Calls_1 rest_1 Pre_1
      (fun tb e a s o t => postC L tb e a s o t ∧ Framed s o t (fieldLocs frame_1_writes a s ++ arrayLocs frame_1_arrays a s ++ staticLocs frame_1_statics s) 600000 7302250) := by
  intro l _ _ _ p e ha hc hk s m args below hf hfit hheap happ hpre
  obtain ⟨k, o, h1, h2, h3, rfl, hF⟩ := lw_comes l p e ha hc hk s m args below hf hfit hheap happ hpre
  exact ⟨k, _, h1, h2, h3, hL args s _, lw_frame hF⟩
theorem i_vc : Claimed_1_1 ∧ Claimed_1_2 := ⟨lw_limb limb_1_1 (fun args s t => by simp [limb_1_1, Cond.after, Cond.holds, Cond.value]), lw_limb limb_1_2 (fun args s t => Cond.after_iff.mpr (by
  first | (rw [show limb_1_2 = Cond.eq .result (.int 1) from rfl, Cond.eq_ints (x := 1) (y := 1) rfl rfl]; simp; done) | (simp [limb_1_2, Cond.value, Term.eval]; done)))⟩

