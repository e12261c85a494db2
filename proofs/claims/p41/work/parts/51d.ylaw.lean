theorem lwP0_or : ∀ q ∈ lwP0, q = lwEnd ∨ q = lwEnS ∨ q = lwClr ∨ q = lwJoS ∨ q = lwLeS ∨ q = 1252 ∨ q = 1295 ∨ q = 1318 ∨ q ∈ lwP1 := by decide +kernel
theorem lw_983in : lwEnB ∈ lwP1 := by decide +kernel
theorem i_toNat {x : Int32} (h : ¬ x < 0) : x.toInt = (x.toNatClampNeg : Int) := by
  have e0 : (0 : Int) ≤ x.toInt := by
    have := Int32.not_lt.mp h
    simpa using Int32.le_iff_toInt_le.mp this
  have := (i_cc e0).2
  omega
section LL
variable {l : Launch} {D : va_G} {bf : Nat → Nat}
variable {p : Program} {e : Env} {s : State} {m : MethodId} {below : List Frame} {meth : Method} {c : Code} {b : Nat}
/-- round after round -/
theorem lwLoop {g : Nat → Int32} {aX aM : Nat} (hr : meth.sig.returnType = ret) (hlocks : meth.locks = false) (hF : y_Fix ztb znw bf zcls (ytbL ywLw) p room_1 s m #[Value.ref b] meth c (fun q : Nat => s.heap.size ≤ q) yrLw) (hT : va_T .int (bf 2) (bf 1) (fun j => .int (g j)) (fun q : Nat => s.heap.size ≤ q) s s.heap) (hL : bf 1 ≤ 3072) :
    ∀ (N : Nat) (x : Int32) (ce sl : Nat) (H : Heap) (locs : List Loc) (cw : va_W) (tys : List (ClassId × FieldType)) (tg : List yC) (ls : Array Slot), 3080 - x.toNatClampNeg < N → ¬ x < 0 → x.toNatClampNeg ≤ 3078 → ce ≤ 224 + x.toNatClampNeg → sl ≤ 26096 + 61 * x.toNatClampNeg → lwHZ D s (fun q : Nat => s.heap.size ≤ q) aX aM H locs cw tys tg → lv_has ls 4 (lwLv bf aX aM x) → W p l e room_1 s m #[Value.ref b] below meth c H locs ce sl (lw_Z below #[Value.ref b] s) (F0 m 18 ls []) := by
  intro N
  induction N with
  | zero => intro x ce sl H locs cw tys tg ls h; omega
  | succ N ih =>
    intro x ce sl H locs cw tys tg ls hN hx0 hx1 hce hsl hS hls
    obtain ⟨hx, hb, hml, hown, hts, hR, hNW, hA0, hok⟩ := id hF
    have hxi := i_toNat hx0
    have hc0 : room_1.cells = 600000 := rfl
    have hs0 : room_1.slots = 7302250 := rfl
    have h4 := hS.1.2.2.2.1
    refine lv_iload_n (k := 3) hx hb (y_dcd_ok (by decide +kernel)) rfl (lv_at hls 0 rfl) ?_
    refine lv_aload_n (k := 0) hx hb (y_dcd_ok (by decide +kernel)) rfl (lv_at hls 3 rfl) ?_
    refine va_tlen hx hb hT h4 (v := Int32.ofNat (bf 1)) rfl (y_dcd_ok (by decide +kernel)) ?_
    refine lv_bipush (n := 6) hx hb (y_dcd_ok (by decide +kernel)) rfl ?_
    refine lv_isub hx hb (y_dcd_ok (by decide +kernel)) ?_
    have e6 : ((Int8.ofInt 6).toInt32).toInt = 6 := by decide
    have eL : (Int32.ofNat (bf 1)).toInt = (bf 1 : Int) := Int32.toInt_ofNat_of_lt (by omega)
    have eS : (Int32.ofNat (bf 1) - (Int8.ofInt 6).toInt32).toInt = (bf 1 : Int) - 6 := by
      rw [Int32.toInt_sub, eL, e6]
      exact Int.bmod_eq_of_le (by omega) (by omega)
    refine z_icmp (cd := .gt) (off := lwEnd + 6 - 24) (tgt := lwEnd + 6) hx hb (y_dcd_ok (by decide +kernel)) (by decide) (fun _ => ?_) (fun hgt => ?_)
    · refine lv_iconst (n := 1) hx hb (y_dcd_ok (by decide +kernel)) rfl ?_
      exact va_forget h4.2.2 (W.widen (by omega) (by omega) (lw_ret hx hb hr hlocks (y_dcd_ok (by decide +kernel))))
    · have hle : x.toInt ≤ (bf 1 : Int) - 6 := by
        have h1 : ¬ (Int32.ofNat (bf 1) - (Int8.ofInt 6).toInt32) < x := hgt
        have h2 := Int32.le_iff_toInt_le.mp (Int32.not_lt.mp h1)
        omega
      have hix : lwIx bf x := ⟨hx0, by omega, hL⟩
      have next : ∀ (ce' sl' : Nat), ce' ≤ 224 + x.toNatClampNeg + 6 → sl' ≤ 26096 + 61 * (x.toNatClampNeg + 6) → ∀ pc' ∈ [lwEnd], ∀ (H : Heap) (locs : List Loc) (cw : va_W) (tys : List (ClassId × FieldType)) (tg : List yC) (ls : Array Slot), lwHZ D s (fun q : Nat => s.heap.size ≤ q) aX aM H locs cw tys tg → lv_has ls 4 (lwLv bf aX aM x) → W p l e room_1 s m #[Value.ref b] below meth c H locs ce' sl' (lw_Z below #[Value.ref b] s) (F0 m pc' ls []) := by
        intro ce' sl' hce' hsl' pc' hpc' H locs cw tys tg ls hS hls
        have hpc' := List.mem_singleton.mp hpc'
        subst hpc'
        have e1 : (Int32.ofInt 6).toInt = 6 := by decide
        have e2 : (x + Int32.ofInt 6).toInt = x.toInt + 6 := by
          rw [Int32.toInt_add, e1]
          exact Int.bmod_eq_of_le (by omega) (by omega)
        have e3 : (x + Int32.ofInt 6).toNatClampNeg = x.toNatClampNeg + 6 := by
          show (x + Int32.ofInt 6).toInt.toNat = _
          rw [e2]
          omega
        have e4 : ¬ (x + Int32.ofInt 6) < 0 := fun z => by
          have := Int32.lt_iff_toInt_lt.mp z
          have z0 : (0 : Int32).toInt = 0 := by decide
          omega
        refine lv_iinc (i := 3) (n := 6) (nL := 4) (k := 0) hx hb (y_dcd_ok (by decide +kernel)) hls rfl rfl (by decide) (show _ = lwLv bf aX aM (x + Int32.ofInt 6) from rfl) (fun ls' hl' => ?_)
        refine lv_goto (off := 18 - (lwEnd + 3 : Int)) (tgt := 18) hx hb (y_dcd_ok (by decide +kernel)) (by decide) ?_
        exact ih (x + Int32.ofInt 6) ce' sl' H locs cw tys tg ls' (by omega) e4 (by omega) (by omega) (by omega) hS hl'
      refine lwGo lw_0 (fun y h => ⟨y, y_from_sub _ _ y h, rfl⟩) hF (by omega) (by omega) hS hix hls ?_
      intro pc' hpc' H1 locs1 cw1 tys1 tg1 ls1 hS1 hls1
      rcases lwP0_or pc' hpc' with rfl | rfl | rfl | rfl | rfl | rfl | rfl | rfl | hp
      · exact next ce sl (by omega) (by omega) lwEnd (List.mem_singleton.mpr rfl) H1 locs1 cw1 tys1 tg1 ls1 hS1 hls1
      · refine lwEnter hF hT (by omega) (by omega) hS1 hix hls1 (fun H2 locs2 cw2 tys2 tg2 hS2 => ?_)
        exact lwGo (lw_all lwEnB lw_983in) y_ufl_ok hF (by omega) (by omega) hS2 hix hls1 (next (ce + 2) (sl + 61) (by omega) (by omega))
      · exact lwClear hF (by omega) (by omega) hS1 hix hls1 (next ce sl (by omega) (by omega))
      · exact lwJour hF hT (by omega) (by omega) hS1 hix hls1 (next ce sl (by omega) (by omega))
      · exact lwLeg hF hT (by omega) (by omega) hS1 hix hls1 (next ce sl (by omega) (by omega))
      · exact lwM_station hF hT (by omega) (by omega) hS1 hix hls1 (next ce sl (by omega) (by omega))
      · exact lwM_run hF hT (by omega) (by omega) hS1 hix hls1 (next ce sl (by omega) (by omega))
      · exact lwM_stopAt hF hT (by omega) (by omega) hS1 hix hls1 (next ce sl (by omega) (by omega))
      · exact lwGo (lw_all pc' hp) y_ufl_ok hF (by omega) (by omega) hS1 hix hls1 (next ce sl (by omega) (by omega))
end LL
