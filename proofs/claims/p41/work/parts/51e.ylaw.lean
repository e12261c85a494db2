-- the law from its entry
def lwB (c : Jvm.Cond) : Prop := c ∈ flatC (Jvm.Cond.and given_1 narrow_1)
theorem lwT0 : ∀ c ∈ lwTc 85 [112, 108, 97, 105, 110], c ∈ flatC (Jvm.Cond.and given_1 narrow_1) := by decide +kernel
theorem lwT1 : ∀ c ∈ lwTc 94 [112, 111, 105, 110, 116], c ∈ flatC (Jvm.Cond.and given_1 narrow_1) := by decide +kernel
theorem lwT2 : ∀ c ∈ lwTc 96 [106, 111, 105, 110], c ∈ flatC (Jvm.Cond.and given_1 narrow_1) := by decide +kernel
theorem lwT3 : ∀ c ∈ lwTc 101 [115, 105, 103, 110, 97, 108], c ∈ flatC (Jvm.Cond.and given_1 narrow_1) := by decide +kernel
theorem lwT4 : ∀ c ∈ lwTc 106 [115, 116, 111, 112], c ∈ flatC (Jvm.Cond.and given_1 narrow_1) := by decide +kernel
theorem lwT5 : ∀ c ∈ lwTc 152 [116, 108, 114], c ∈ flatC (Jvm.Cond.and given_1 narrow_1) := by decide +kernel
theorem lwT6 : ∀ c ∈ lwTc 154 [97, 98], c ∈ flatC (Jvm.Cond.and given_1 narrow_1) := by decide +kernel
theorem lwZ1 : Jvm.Cond.eq (.static "java/lang/String" "COMPACT_STRINGS" "Z") (.int 1) ∈ flatC (Jvm.Cond.and given_1 narrow_1) := by decide +kernel
theorem lwZ2 : Jvm.Cond.isRef (.static "jdk/internal/util/Preconditions" "SIOOBE_FORMATTER" "Ljava/util/function/BiFunction;") ∈ flatC (Jvm.Cond.and given_1 narrow_1) := by decide +kernel
theorem lw_TX {s : State} {args : Array Value} {b L : Nat} {xs : Nat → Int32} (htb : ∀ c ∈ ztb.flatten, c.before args s = true) (hfl : ∀ c ∈ flatC (Jvm.Cond.and given_1 narrow_1), c.before args s = true) (hX : va_X b L xs s s.heap) : ∃ bf : Nat → Nat, bf 1 = L ∧ bf 2 = b ∧ y_TX znw bf (fun q : Nat => s.heap.size ≤ q) s s.heap := by
  obtain ⟨a0, v0, S0, E0⟩ := lwTx (s := s) (args := args) (by decide) (fun c hc => hfl c (lwT0 c hc))
  obtain ⟨a1, v1, S1, E1⟩ := lwTx (s := s) (args := args) (by decide) (fun c hc => hfl c (lwT1 c hc))
  obtain ⟨a2, v2, S2, E2⟩ := lwTx (s := s) (args := args) (by decide) (fun c hc => hfl c (lwT2 c hc))
  obtain ⟨a3, v3, S3, E3⟩ := lwTx (s := s) (args := args) (by decide) (fun c hc => hfl c (lwT3 c hc))
  obtain ⟨a4, v4, S4, E4⟩ := lwTx (s := s) (args := args) (by decide) (fun c hc => hfl c (lwT4 c hc))
  obtain ⟨a5, v5, S5, E5⟩ := lwTx (s := s) (args := args) (by decide) (fun c hc => hfl c (lwT5 c hc))
  obtain ⟨a6, v6, S6, E6⟩ := lwTx (s := s) (args := args) (by decide) (fun c hc => hfl c (lwT6 c hc))
  have hA : ∀ a : Nat, a < s.heap.size → ¬ s.heap.size ≤ a := fun a h => Nat.not_le.mpr h
  have hev : ∀ {t : Jvm.Term} {v : Value}, (∃ k, t = lwTs k) → t.eval args s none [] s = some v → t.eval args s none [] s = some v := fun _ h => h
  refine ⟨fun n => match n with
    | 1 => L
    | 2 => b
    | 3 => a0
    | 4 => v0
    | 5 => a1
    | 6 => v1
    | 7 => a2
    | 8 => v2
    | 9 => a3
    | 10 => v3
    | 11 => a4
    | 12 => v4
    | 13 => a5
    | 14 => v5
    | 15 => a6
    | 16 => v6
    | _ => 0, rfl, rfl, ?_, ?_, ?_, ?_, ?_⟩
  · intro i own k tx h
    match i, h with
    | 0, h => cases h; exact vk_R.of (htb _ (z_w0_ok (n := 3228) (by decide +kernel))) E0
    | 1, h => cases h; exact vk_R.of (htb _ (z_w0_ok (n := 4057) (by decide +kernel))) E1
    | 2, h => cases h; exact vk_R.of (htb _ (z_w0_ok (n := 4058) (by decide +kernel))) E2
    | 3, h => cases h; exact vk_R.of (htb _ (z_w0_ok (n := 4136) (by decide +kernel))) E3
    | 4, h => cases h; exact vk_R.of (htb _ (z_w0_ok (n := 4145) (by decide +kernel))) E4
    | 5, h => cases h; exact vk_R.of (htb _ (z_w0_ok (n := 4071) (by decide +kernel))) E5
    | 6, h => cases h; exact vk_R.of (htb _ (z_w0_ok (n := 4072) (by decide +kernel))) E6
    | 7, h => cases h
    | 8, h => cases h
    | i + 9, h =>
      have hm : Jvm.Cond.stringRef own k tx ∈ znwN := List.mem_of_getElem? (i := i) (by rw [znwN, List.getElem?_drop, Nat.add_comm]; exact h)
      exact absurd rfl ((znwN_no _ hm).1 own k tx)
  · exact y_forall ⟨_, S0⟩ <| y_forall ⟨_, S1⟩ <| y_forall ⟨_, S2⟩ <| y_forall ⟨_, S3⟩ <| y_forall ⟨_, S4⟩ <| y_forall ⟨_, S5⟩ <| y_forall ⟨_, S6⟩ <| y_fornil
  · intro C n d x h
    rcases znw_or h with h | h
    · have key : ∀ c ∈ znwT, ∀ C n d x, c = Jvm.Cond.eq (.static C n d) (.int x) → va_Z C n d (.int x) (fun q : Nat => s.heap.size ≤ q) s s.heap := by
        refine y_forall (fun _ _ _ _ z => ?_) <| y_forall (fun _ _ _ _ z => ?_) <| y_forall (fun _ _ _ _ z => ?_) <| y_forall (fun _ _ _ _ z => ?_) <| y_forall (fun _ _ _ _ z => ?_) <| y_forall (fun _ _ _ _ z => ?_) <| y_forall (fun _ _ _ _ z => ?_) <| y_forall (fun C n d x z => ?_) <| y_forall (fun _ _ _ _ z => ?_) <| y_fornil
        all_goals cases z
        exact va_Zof (htb _ (z_w0_ok (n := 4002) (by decide +kernel))) (htb _ (z_w0_ok (n := 1013) (by decide +kernel))) (va_eqt (hfl _ lwZ1)) hA
      exact key _ h C n d x rfl
    · exact absurd rfl ((znwN_no _ h).2.1 _ _)
  · obtain ⟨scr, h1, h2, h3, h4, h5⟩ := hX
    exact ⟨xs, scr, h1, h2, h3, by rw [h4]; exact Nat.le_refl _, by rw [h4]; rfl, h5, hA b (Array.getElem?_eq_some_iff.mp h1).1⟩
  · intro C n d h
    rcases znw_or h with h | h
    · have key : ∀ c ∈ znwT, ∀ C n d, c = Jvm.Cond.isRef (.static C n d) → va_Zq C n d (fun q : Nat => s.heap.size ≤ q) s s.heap := by
        refine y_forall (fun _ _ _ z => ?_) <| y_forall (fun _ _ _ z => ?_) <| y_forall (fun _ _ _ z => ?_) <| y_forall (fun _ _ _ z => ?_) <| y_forall (fun _ _ _ z => ?_) <| y_forall (fun _ _ _ z => ?_) <| y_forall (fun _ _ _ z => ?_) <| y_forall (fun _ _ _ z => ?_) <| y_forall (fun C n d z => ?_) <| y_fornil
        all_goals cases z
        exact va_Zqof (htb _ (z_w0_ok (n := 4018) (by decide +kernel))) (htb _ (z_w0_ok (n := 1015) (by decide +kernel))) (hfl _ lwZ2) hA
      exact key _ h C n d rfl
    · exact absurd rfl ((znwN_no _ h).2.2 _)
/-- at the beginning both counters are 0 -/
theorem lw_Z0 {sg : Nat → Int32} {bz : Nat} {tys : List (ClassId × FieldType)} {tg : List yC} {cw : va_W} (hz : z_WR zcls (z_g sg (cw.map Prod.fst) bz) tys zw2 cw) (hW : y_WT (ytb yw00) zcls tys tg cw) : lwZ0 cw := by
  have key : ∀ (k ci f : Nat) (fs : List zAV), zw2[k]? = some (.inl (ci, fs)) → fs[f]? = some (.inl 0) → y_fld cw k f = nI 0 := by
    intro k ci f fs h1 h2
    obtain ⟨x, g1, g2⟩ := z_WR_get hz h1
    obtain ⟨a, x⟩ := x
    match x, g1, g2 with
    | .inr (cj, vs), g1, ⟨_, g2⟩ =>
      obtain ⟨v, k1, k2⟩ := z_SR_get g2 h2
      have k2 : v = .int (nI 0) := k2
      subst k2
      exact y_fld_eq g1 k1
    | .inl _, _, z => exact z.elim
  unfold lwZ0
  rw [key lwZc _ lwZf _ rfl rfl, key 114 _ lwZm _ rfl rfl]
theorem lw_R0 {sg : Nat → Int32} {bz : Nat} {tys : List (ClassId × FieldType)} {cw : va_W} (hz : z_WR zcls (z_g sg (cw.map Prod.fst) bz) tys zw2 cw) : lwR cw := by
  have key : ∀ (r kd n : Nat) (zs : List zAV), zw2[r]? = some (.inr (kd, n, zs)) → kd < 3 → y_hasR cw r ∧ ∀ q u, zs.getD q (.inl 0) = .inl u → y_row cw r q = nI u := by
    intro r kd n zs h1 h2
    obtain ⟨⟨a, x⟩, g1, g2⟩ := z_WR_get hz h1
    match x, g1, g2 with
    | .inl (cA, n', d), g1, ⟨_, _, g2⟩ =>
      have hd : ∃ f, d = .inl f ∧ ∀ j, z_g sg (cw.map Prod.fst) bz (zs.getD j (.inl 0)) (.int (f j)) := by
        match kd, h2, g2 with
        | 0, _, g2 => exact g2
        | 1, _, g2 => exact g2
        | 2, _, g2 => exact g2
      obtain ⟨f, rfl, hf⟩ := hd
      refine ⟨⟨a, cA, n', f, g1⟩, fun q u e0 => ?_⟩
      rw [y_row_eq g1]
      have := hf q
      rw [e0] at this
      exact Value.int.inj this
    | .inr _, _, z => exact z.elim
  have kz : ∀ (r kd n : Nat), zw2[r]? = some (.inr (kd, n, [])) → kd < 3 → y_hasR cw r ∧ ∀ q, y_row cw r q = nI 0 := fun r kd n h1 h2 => ⟨(key r kd n [] h1 h2).1, fun q => (key r kd n [] h1 h2).2 q 0 rfl⟩
  have e8 : ∀ (u q : Nat), q < 8 → ([.inl u, .inl u, .inl u, .inl u, .inl u, .inl u, .inl u, .inl u] : List zAV).getD q (.inl 0) = .inl u := by
    intro u q hq
    rcases (by omega : q = 0 ∨ q = 1 ∨ q = 2 ∨ q = 3 ∨ q = 4 ∨ q = 5 ∨ q = 6 ∨ q = 7) with rfl | rfl | rfl | rfl | rfl | rfl | rfl | rfl <;> rfl
  have k8 : ∀ (r u : Nat), zw2[r]? = some (.inr (0, 8, [.inl u, .inl u, .inl u, .inl u, .inl u, .inl u, .inl u, .inl u])) → y_hasR cw r ∧ ∀ q, q < 8 → y_row cw r q = nI u := fun r u h1 => ⟨(key r 0 8 _ h1 (by decide)).1, fun q hq => (key r 0 8 _ h1 (by decide)).2 q u (e8 u q hq)⟩
  have c80 := k8 80 5 rfl
  have c81 := k8 81 0 rfl
  have c194 := k8 194 5 rfl
  have c195 := k8 195 0 rfl
  have z83 := kz 83 0 _ rfl (by decide)
  have z84 := kz 84 0 _ rfl (by decide)
  have z85 := kz 85 0 _ rfl (by decide)
  have z86 := kz 86 0 _ rfl (by decide)
  have z197 := kz 197 0 _ rfl (by decide)
  have z198 := kz 198 0 _ rfl (by decide)
  have z199 := kz 199 0 _ rfl (by decide)
  have z200 := kz 200 0 _ rfl (by decide)
  refine ⟨y_forall c80.1 <| y_forall c81.1 <| y_forall z83.1 <| y_forall z84.1 <| y_forall z85.1 <| y_forall z86.1 <| y_forall c194.1 <| y_forall c195.1 <| y_forall z197.1 <| y_forall z198.1 <| y_forall z199.1 <| y_forall z200.1 <| y_fornil, ?_⟩
  refine y_forall (fun j hj => ?_) <| y_forall (fun j hj => ?_) <| y_forall (fun j _ => ?_) <| y_forall (fun j _ => ?_) <| y_forall (fun j _ => ?_) <| y_forall (fun j _ => ?_) <| y_fornil
  · have hj : j < 8 := hj
    show y_row cw 80 j = y_row cw 194 j ∧ y_in [(2147483648, 2147483708)] (z_b (y_row cw 80 j))
    rw [c80.2 j hj, c194.2 j hj]
    exact ⟨rfl, y_in_iv (by decide) (by decide)⟩
  · have hj : j < 8 := hj
    show y_row cw 81 j = y_row cw 195 j ∧ y_in [(2147483648, 2147483657)] (z_b (y_row cw 81 j))
    rw [c81.2 j hj, c195.2 j hj]
    exact ⟨rfl, y_in_iv (by decide) (by decide)⟩
  · show y_row cw 83 j = y_row cw 197 j ∧ y_in [(2147483648, 2147483656)] (z_b (y_row cw 83 j))
    rw [z83.2 j, z197.2 j]
    exact ⟨rfl, y_in_iv (by decide) (by decide)⟩
  · show y_row cw 84 j = y_row cw 198 j ∧ y_in [(2147483648, 2147483655)] (z_b (y_row cw 84 j))
    rw [z84.2 j, z198.2 j]
    exact ⟨rfl, y_in_iv (by decide) (by decide)⟩
  · show y_row cw 85 j = y_row cw 199 j ∧ y_in [(2147483648, 2147493648)] (z_b (y_row cw 85 j))
    rw [z85.2 j, z199.2 j]
    exact ⟨rfl, y_in_iv (by decide) (by decide)⟩
  · show y_row cw 86 j = y_row cw 200 j ∧ y_in [(2147483648, 2147493648)] (z_b (y_row cw 86 j))
    rw [z86.2 j, z200.2 j]
    exact ⟨rfl, y_in_iv (by decide) (by decide)⟩
theorem lw_J0 {sg : Nat → Int32} {bz : Nat} {tys : List (ClassId × FieldType)} {cw : va_W} (hz : z_WR zcls (z_g sg (cw.map Prod.fst) bz) tys zw2 cw) : lwJ cw := by
  have h1 : zw2[93]? = some (.inl (1, [z_rf 79, .inl 0, z_rf 94, z_rf 95, z_rf 96, z_rf 97, z_rf 98, z_rf 99, z_rf 100, z_rf 101])) := rfl
  obtain ⟨⟨a, x⟩, g1, g2⟩ := z_WR_get hz h1
  match x, g1, g2 with
  | .inr (cj, vs), g1, ⟨ec, g2⟩ =>
    have ec : 1 = cj := ec
    subst ec
    have key : ∀ (f k : Nat), [z_rf 79, .inl 0, z_rf 94, z_rf 95, z_rf 96, z_rf 97, z_rf 98, z_rf 99, z_rf 100, z_rf 101][f]? = some (z_rf k) → vs[f]? = some (.ref (dad cw k)) := fun f k hk => by
      obtain ⟨v, f6, a6, d6, e6⟩ := z_SR_get g2 hk
      have e6 : v = .ref a6 := e6
      have d6 : (cw.map Prod.fst)[k]? = some a6 := d6
      subst e6
      rw [f6]
      unfold dad
      rw [d6]
      rfl
    exact ⟨a, vs, g1, key 6 98 rfl, key 7 99 rfl, key 8 100 rfl, key 9 101 rfl⟩
  | .inl _, _, z => exact z.elim
theorem lw_O0 {sg : Nat → Int32} {bz : Nat} {tys : List (ClassId × FieldType)} {cw : va_W} (hz : z_WR zcls (z_g sg (cw.map Prod.fst) bz) tys zw2 cw) : lwO cw := by
  have key : ∀ (k ci f : Nat) (fs : List zAV), zw2[k]? = some (.inl (ci, fs)) → fs[f]? = some (.inl 0) → y_fld cw k f = nI 0 := by
    intro k ci f fs h1 h2
    obtain ⟨x, g1, g2⟩ := z_WR_get hz h1
    obtain ⟨a, x⟩ := x
    match x, g1, g2 with
    | .inr (cj, vs), g1, ⟨_, g2⟩ =>
      obtain ⟨v, k1, k2⟩ := z_SR_get g2 h2
      have k2 : v = .int (nI 0) := k2
      subst k2
      exact y_fld_eq g1 k1
    | .inl _, _, z => exact z.elim
  exact ⟨0, by omega, ⟨key 93 _ 1 _ rfl rfl, key 114 _ 121 _ rfl rfl⟩, fun j hj => absurd hj (Nat.not_lt_zero _)⟩
set_option maxHeartbeats 4000000 in
theorem whole_start {p : Program} {e : Env} {s : State} {m : MethodId} {below : List Frame} {meth : Method} {c : Code} (l : Launch) {b L : Nat} {xs : Nat → Int32} (hL : L ≤ 3072) (C0 : lw_At p s m meth c b L xs) : W p l e room_1 s m #[Value.ref b] below meth c s.heap [] 0 0 (lw_Z below #[Value.ref b] s) (entryFrame m ([Value.ref b] : List Value).toArray 4) := by
  obtain ⟨hx, hb, hr, hml, hown, hts, hX, hbl, hlocks, hgv⟩ := id C0
  have hG : ∀ w ∈ z_G ztb, w.before #[Value.ref b] s = true := fun w hw => hts w (by rw [← ztb_flat]; exact (List.mem_filter.mp hw).1)
  have htb : ∀ w ∈ ztb.flatten, w.before #[Value.ref b] s = true := fun w hw => hts w (by rw [← ztb_flat]; exact hw)
  have hfl := flat_of_before (Jvm.Cond.and given_1 narrow_1) hgv
  have hN : z_NW znw s := ⟨fun a i y h hm => va_Nw.of rfl (htb _ (by
      rcases znw_or hm with hm | hm
      · exact absurd rfl ((znwT_no _ hm).1 a i y h)
      · exact znwN_in _ hm)), fun C hm => va_AO.of (htb _ (by
      rcases znw_or hm with hm | hm
      · exact absurd rfl ((znwT_no _ hm).2 _)
      · exact znwN_in _ hm))⟩
  obtain ⟨bf, hbf1, hbf2, hTX⟩ := lw_TX htb hfl hX
  have hk : ∀ ci : Nat, ∃ q : ClassId × (Nat → Nat), ∀ c : vw_C, zcls[ci]? = some c → u_Kn s c.1 c.2.1 c.2.2 q.1 q.2 := by
    intro ci
    cases hc : zcls[ci]? with
    | none => exact ⟨(m.cls, fun _ => 0), fun c h => by cases h⟩
    | some c0 =>
      obtain ⟨f1, f2, f3, f4, f5⟩ := zCF ci c0 hc
      obtain ⟨cC, iS, h⟩ := u_known (C := c0.1) (T := c0.2.1) (N := c0.2.2) (n := c0.2.2) hG f1 (hG _ f3)
      exact ⟨(cC, iS), fun c h' => by cases h'; exact h⟩
  obtain ⟨D, hD⟩ : ∃ D : va_G, ∀ (k : Nat) (q : vw_C), zcls[k]? = some q → u_Kn s q.1 q.2.1 q.2.2 (D.1 k) (D.2 k) := ⟨(fun k => (Classical.choose (hk k)).1, fun k => (Classical.choose (hk k)).2), fun k q h => Classical.choose_spec (hk k) q h⟩
  have hS : ∀ n, z_Snd ztb znw zcls zzty zzdv zms l D xs b n := z_snd zAll
  have hF : ∀ (st : zKS), z_Fix ztb znw zcls zms xs b p room_1 s m #[Value.ref b] meth c (fun q : Nat => s.heap.size ≤ q) (0, st) zmL := fun st =>
    ⟨hx, hb, hml, hown, hG, fun h => absurd h (by decide), rfl, hN, fun _ h => h, List.all_eq_true.mp zlaw_all, fun L' h => by
      have h : 0 = L' + 1 := h
      omega⟩
  have hE : z_End zcls l D xs b p e room_1 s m #[Value.ref b] below meth c (fun q : Nat => s.heap.size ≤ q) [] zmL (lw_Z below #[Value.ref b] s) z_k0 := by
    intro H locs cw tys ls cst pc ce sl env w r hSt hce hsl hk hret
    have hloc : ∀ q ∈ locs, s.heap.size ≤ q.base := hSt.2.2.2.1.2.2
    rcases hret with ⟨rfl, -, -, -⟩ | ⟨a, x, ty, rfl, rfl, h3, h4, h5, h6⟩ | ⟨a, v, ty, rfl, rfl, h3, h4, h5, h6, h7⟩
    · exact absurd (show false = true from hk) Bool.false_ne_true
    · match a, h3, hk with
      | .inl u, h3, hk =>
        have hu : u = 1 := Nat.eq_of_beq_eq_true hk
        subst hu
        have h3 : Value.int x = .int (nI 1) := h3
        cases h3
        exact va_forget hloc (W.widen hce hsl (lw_ret hx hb hr hlocks h6))
      | .inr _, _, hk => exact absurd (show false = true from hk) Bool.false_ne_true
    · match a, h3, hk with
      | .inl u, h3, hk =>
        have h3 : v = .int (nI u) := h3
        subst h3
        rcases h4 with h4 | ⟨q, h4⟩ <;> cases h4
      | .inr _, _, hk => exact absurd (show false = true from hk) Bool.false_ne_true
  have hYF : y_Fix ztb znw bf zcls (ytbL ywLw) p room_1 s m #[Value.ref b] meth c (fun q : Nat => s.heap.size ≤ q) yrLw := ⟨hx, hb, hml, hown, hG, rfl, ⟨hN, hTX⟩, fun _ h => h, List.all_eq_true.mp yq_yrLw⟩
  obtain ⟨g, hT⟩ := hTX.2.2.2.1
  have h18 : ∀ (H : Heap) (locs : List Loc) (cw : va_W) (tys : List (ClassId × FieldType)) (ls : Array Slot) (cst : List Value), z_St zcls D xs b s (fun q : Nat => s.heap.size ≤ q) [] H locs zw2 zE6 cw tys → z_Fr xs b cw 4 ls zlo18 [] cst → W p l e room_1 s m #[Value.ref b] below meth c H locs 224 26096 (lw_Z below #[Value.ref b] s) (F0 m 18 ls cst) := by
    intro H locs cw tys ls cst hSt hFr
    obtain ⟨s1, s2, s3, s4, hw, _, _⟩ := hSt
    obtain ⟨⟨lv, hlv, hLR⟩, hSR⟩ := hFr
    have hcst := z_SR_nil hSR
    subst hcst
    have hW := lw_WT hw
    have hK3 := lw_K3 hw hW
    match lv, hLR with
    | [(k3, v3), (k2, v2), (k1, v1), (k0, v0)], ⟨⟨e3, g3, _⟩, ⟨e2, ⟨aM, g2, g2'⟩, _⟩, ⟨e1, ⟨aX, g1, g1'⟩, _⟩, ⟨e0, g0, _⟩, _⟩ =>
      have e3 : 3 = k3 := e3
      have e2 : 2 = k2 := e2
      have e1 : 1 = k1 := e1
      have e0 : 0 = k0 := e0
      have g3 : v3 = .int (nI 0) := g3
      have g2' : v2 = .ref aM := g2'
      have g1' : v1 = .ref aX := g1'
      have g0 : v0 = .ref b := g0
      subst e3 e2 e1 e0 g3 g2' g1' g0
      have hZ : lwZ cw := ⟨lw_Z0 hw hW, lw_R0 hw, lw_J0 hw, lw_O0 hw⟩
      have hls : lv_has ls 4 (lwLv bf aX aM 0) := by
        show lv_has ls 4 [(3, .int 0), (2, .ref aM), (1, .ref aX), (0, .ref (bf 2))]
        rw [hbf2]
        exact hlv
      exact lwLoop hr hlocks hYF hT (by rw [hbf1]; exact hL) 3100 0 224 26096 H locs cw tys ySh ls (by decide) (by decide) (by decide) (by decide) (by decide) ⟨⟨s1, s2, s3, s4, hW, hK3, g1, g2⟩, hZ⟩ hls
  have h7 : ∀ (H : Heap) (locs : List Loc) (cw : va_W) (tys : List (ClassId × FieldType)) (ls : Array Slot) (cst : List Value), z_St zcls D xs b s (fun q : Nat => s.heap.size ≤ q) [] H locs zw1 zE6 cw tys → z_Fr xs b cw 4 ls zlo7 [z_rf 0] cst → W p l e room_1 s m #[Value.ref b] below meth c H locs 114 10532 (lw_Z below #[Value.ref b] s) (F0 m 7 ls cst) := by
    intro H locs cw tys ls cst hSt hFr
    refine hS 60000 p e room_1 s m #[Value.ref b] below meth c _ [] (0, z_eqS 18 zlo18 [] 224 26096 zE6 zw2) zmL _ (hF _) z_k0 hE ?_ H locs cw tys ls _ _ 7 zlo7 _ 114 10532 zE6 zw1 zcd7_in hSt hFr (by decide) (by decide) zs_7
    intro H locs cw tys ls cst pc lo st ce sl env w hSt hFr hce hsl h
    obtain ⟨rfl, rfl, rfl, rfl, rfl, rfl, rfl⟩ := z_eqS_ok h
    exact h18 H locs cw tys ls cst hSt hFr
  rw [lg_entry_eq]
  have hl := lv_entry ([.ref b]) (n := 4) (Nat.le_of_ble_eq_true rfl)
  refine hS 60000 p e room_1 s m #[Value.ref b] below meth c _ [] (0, z_eqS 7 zlo7 [z_rf 0] 114 10532 zE6 zw1) zmL _ (hF _) z_k0 hE ?_ s.heap [] [] [] _ [] _ 0 [(0, z_scr)] [] 0 0 zE6 [] zcd0_in ⟨⟨hD, fun k q h => by simp at h⟩, fun k q h => by simp at h, ⟨fun i j p q h => by simp at h, fun k q h => by simp at h⟩, va_S.rf, trivial, zE6_ok xs, fun _ _ h => h⟩ ⟨⟨_, hl, ⟨rfl, rfl, rfl⟩, trivial⟩, trivial⟩ (by decide) (by decide) zs_0
  intro H locs cw tys ls cst pc lo st ce sl env w hSt hFr hce hsl h
  obtain ⟨rfl, rfl, rfl, rfl, rfl, rfl, rfl⟩ := z_eqS_ok h
  exact h7 H locs cw tys ls cst hSt hFr
set_option maxHeartbeats 4000000 in
theorem lw_walk (l : Launch) (b : Addr) (xs : List Int32) : MetFree l x (headSpec (Jvm.Cond.code x code maxLocals ret :: tables_1) room_1) (lw_P b xs) (fun _ _ _ _ _ => True) lw_Q := by
  refine MetFree.of_bodyS (code := code) (maxLocals := maxLocals) (ret := ret) (by decide) ?_ ?_
  · intro args s m h hn
    obtain ⟨meth, c, h1, h2, h3, h4, h5, h6, -, -⟩ := Cond.code_spec hn (atoms_spec (ws := Jvm.Cond.code x code maxLocals ret :: tables_1) h _ List.mem_cons_self)
    exact ⟨meth, c, h1, h2, h3, h4, h5, h6⟩
  · intro p e s m args below meth c s₁ B hml0 hP _
    obtain ⟨rfl, hx, hbd, hgv⟩ := hP
    obtain ⟨scr, harrAt, hlist, hof, hsmall⟩ := hx
    obtain ⟨hcb, hkn, -, -⟩ := State.arrayAt?_spec harrAt
    have hown : s.vm.findClass R_law = some m.cls := findClass_of_methodNamed B.named
    have hts0 : ∀ c ∈ (Jvm.Cond.code x code maxLocals ret :: tables_1), c.before #[Value.ref b] s = true := atoms_spec (ws := Jvm.Cond.code x code maxLocals ret :: tables_1) B.pre
    have hts : ∀ w ∈ lw_tbl, w.before #[Value.ref b] s = true := k2_hts_sels lw_privs (fun w hw => hts0 w (List.mem_cons_of_mem _ hw)) lw_privs_ok
    have hml : c.maxLocals = 4 := B.maxLocals_eq (hts0 _ List.mem_cons_self)
    have X₀ : Stand p l e room_1 s m #[Value.ref b] below meth c s₁ [] 0 0 := Stand.of_body B
    have hh0 : s₁.heap = s.heap := by rw [B.state]; rfl
    have hsz : scr.slots.size = xs.length := by rw [← Array.length_toList, hlist, List.length_map]
    have hval : ∀ j : Nat, j < xs.length → scr.slots[j]? = some (.int (xs.getD j 0)) := fun j hj => by
      rw [← Array.getElem?_toList, hlist]
      simp [hj]
    have hbl : b < s.heap.size := (Array.getElem?_eq_some_iff.mp hcb).1
    have hX : va_X b xs.length (fun j => xs.getD j 0) s s.heap := ⟨scr, hcb, hof, hkn, hsz, hval⟩
    have K : W p l e room_1 s m #[Value.ref b] below meth c s₁.heap [] 0 0 (lw_Z below #[Value.ref b] s) (entryFrame m ([Value.ref b] : List Value).toArray 4) := by
      rw [hh0]
      exact whole_start l hbd ⟨B.exec, B.bytes, B.returns, hml, hown, hts, hX, hbl, B.notSynchronized, hgv⟩
    obtain ⟨t, a1, o, b1, b2, b3⟩ := K s₁ rfl X₀
    exact ⟨t, o, a1, b1, b2, b3⟩
theorem lw_pre_spec {args : Array Value} {s : State} (h : (Jvm.Cond.and given_1 narrow_1).before args s = true) (hr : rest_1_c.before args s = true) : ∃ (b : Addr) (xs : List Int32), lw_P b xs args s := by
  have hs := flat_of_before _ h
  have hq := flat_of_before _ hr
  have hc : (Cond.count 1).before args s = true := hs _ (by decide +kernel)
  have harr : (Cond.arrayOf (.arg 0) .int).before args s = true := hs _ (by decide +kernel)
  have hle : (Cond.le (.length (.arg 0)) (.int 3072)).before args s = true := hs _ (by decide +kernel)
  have hlen : (Cond.isInt (.length (.arg 0))).before args s = true := hq _ (by decide +kernel)
  have hall : (Cond.all (.arg 0) (.isInt (.elem (.arg 0) (.index 0)))).before args s = true := hq _ (by decide +kernel)
  obtain ⟨b, xs, hb, hx⟩ := State.ints_of_pre rfl harr hlen hall
  have hsm : xs.length < 2 ^ 31 := hx.choose_spec.2.2.2
  have hev : (Term.length (.arg 0)).eval args s none [] s = some (.int xs.length.toInt32) := hx.length_eval hb
  have hv := Cond.le_ints hev (show (Term.int 3072).eval args s none [] s = some (.int 3072) from rfl)
  have hd : xs.length.toInt32 ≤ 3072 := by
    simpa [Cond.before, Cond.holds, hv] using hle
  have hN : xs.length ≤ 3072 := (Int32.ofNat_le_ofNat hsm (by decide)).mp (show Int32.ofNat xs.length ≤ Int32.ofNat 3072 from hd)
  exact ⟨b, xs, Cond.one_arg hc (show args[0]? = some (.ref b) from hb), hx, hN, h⟩
theorem lw_comes (l : Launch) : Comes l x (Jvm.Cond.code x code maxLocals ret :: tables_1) room_1 (fun tb e args s => Calls_1 tb e args s ∧ rest_1 tb e args s ∧ Pre_1 tb e args s)
    (fun _ _ args s o t => lw_Q args s o t) := by
  intro p e ha hc hk s m args below hf hfit hheap happ hpre
  obtain ⟨b, xs, hP⟩ := lw_pre_spec hpre.2.2 hpre.2.1
  obtain ⟨k, o, h1, h2, h3, hQ⟩ := lw_walk l b xs p e ha hc hk s m args below hf ((Spec.applies_iff_loose hf).mp happ).1 hP trivial
  exact ⟨k, o, h1, h2, h3, hQ⟩
theorem lw_frame {s t : State} {o : Outcome} {args : Array Value} (h : Framed s o t [] 600000 7302250) :
    Framed s o t (fieldLocs frame_1_writes args s ++ arrayLocs frame_1_arrays args s ++ staticLocs frame_1_statics s) 600000 7302250 := h
theorem lw_limb (L : Cond) (hL : ∀ (args : Array Value) (s t : State), L.after args s (.returned (some (.int 1))) t = true) :
    ArmFor flags0 classFile x code maxLocals ret World_1 tables_1 room_1 Calls_1 rest_1 Pre_1
      (fun tb e a s o t => postC L tb e a s o t ∧ Framed s o t (fieldLocs frame_1_writes a s ++ arrayLocs frame_1_arrays a s ++ staticLocs frame_1_statics s) 600000 7302250) := by
  intro l _ _ _ p e ha hc hk s m args below hf hfit hheap happ hpre
  obtain ⟨k, o, h1, h2, h3, rfl, hF⟩ := lw_comes l p e ha hc hk s m args below hf hfit hheap happ hpre
  exact ⟨k, _, h1, h2, h3, hL args s _, lw_frame hF⟩
theorem i_vc : Claimed_1_1 ∧ Claimed_1_2 := ⟨lw_limb limb_1_1 (fun args s t => by simp [limb_1_1, Cond.after, Cond.holds, Cond.value]), lw_limb limb_1_2 (fun args s t => Cond.after_iff.mpr (by
  first | (rw [show limb_1_2 = Cond.eq .result (.int 1) from rfl, Cond.eq_ints (x := 1) (y := 1) rfl rfl]; simp; done) | (simp [limb_1_2, Cond.value, Term.eval]; done)))⟩

