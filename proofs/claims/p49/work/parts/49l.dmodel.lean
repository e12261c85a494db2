-- the reference: nextOrder
theorem dni_dec {k : Nat} : nI k + Int32.ofInt (-1) = nI k - 1 := by
  apply Int32.toInt_inj.mp
  rw [Int32.toInt_add, Int32.toInt_sub]
  rfl
theorem dni_two {n k a : Nat} (hn : n < 100) (hk : k < 100) (ha : a ≤ n + k) : nI n - 1 - (nI a - nI k - 1) = nI (n + k - a) := by
  apply Int32.toInt_inj.mp
  have e1 : (1 : Int32).toInt = 1 := by decide
  have h1 := dni_int (k := n) (by omega)
  have h2 := dni_int (k := k) (by omega)
  have h3 := dni_int (k := a) (by omega)
  have h4 := dni_int (k := n + k - a) (by omega)
  have s1 : (nI n - 1).toInt = n - 1 := by rw [di_sub] <;> omega
  have s2 : (nI a - nI k).toInt = a - k := by rw [di_sub] <;> omega
  have s3 : (nI a - nI k - 1).toInt = a - k - 1 := by rw [di_sub] <;> omega
  rw [di_sub (by omega) (by omega)]
  omega
/-- a row holds these numbers -/
def dHas (o : Nat → Int32) (n : Nat) (F : Nat → Nat) : Prop := ∀ j, j < n → o j = nI (F j) ∧ F j < 7
theorem dHas_upd {o : Nat → Int32} {n : Nat} {F : Nat → Nat} (h : dHas o n F) {i x : Nat} (hx : x < 7) : dHas (upd o i (nI x)) n (dupd F i x) := by
  intro j hj
  by_cases e : j = i
  · subst e
    refine ⟨by simp [upd, dupd], by simp [dupd]; exact hx⟩
  · have e' : Nat.beq j i = false := by
      cases hb : Nat.beq j i with
      | true => exact absurd (Nat.eq_of_beq_eq_true hb) e
      | false => rfl
    refine ⟨?_, ?_⟩
    · simp only [upd, dupd, e', cond_false]
      rw [if_neg e]
      exact (h j hj).1
    · simp only [dupd, e', cond_false]
      exact (h j hj).2
section XE
variable {l : Launch} {D : va_G} {b : Nat → Nat} {cw cw0 : va_W} {tys : List (ClassId × FieldType)} {sz : Nat} {ad : Nat → Nat} {cI : Nat → ClassId} {V : Nat → Nat → Int32}
set_option maxHeartbeats 4000000 in
theorem dM_nex {n : Nat} (hn : n ≤ 7) {vs : List Value} (hv : dMv ad n vs) (hT : xT 213 224 cI tys) (hc : xc 114 12 213 224 ad cI cw0 V vs cw) {F : Nat → Nat} (hF0 : dHas (V 218) n F) : Met l (y_y xNex) (y_ws ztb xNex) (y_rm xNex) (y_Pc znw b zcls D cw tys sz [.ref (ad 114)]) (y_Q zcls D (fun cw' tys' rv => tys' = tys ∧ ∃ V', xc 114 12 213 224 ad cI cw0 V' vs cw' ∧ (∀ r, r ≠ 218 → V' r = V r) ∧ ((rv = some (.int 0) ∧ dnx n F = none) ∨ (rv = some (.int 1) ∧ ∃ F', dnx n F = some F' ∧ dHas (V' 218) n F'))) cw sz) 0 0 (va_A cw sz) := by
  refine xMet (tb := ytb yw00) (mr := xNex) yo_ym109 (fun x hx => by cases hx) (Nat.le_of_ble_eq_true rfl) ?_
  intro p e s m below meth c Q ls hsz hF hs hl kv ki
  have hl : lv_has ls 7 [(0, .ref (ad 114))] := hl
  generalize va_A cw sz = A at *
  -- the third loop
  have loop3 : ∀ (k : Nat), k + 1 < n → ∀ (Fx : Nat → Nat), dnx n F = some Fx → ∀ (m0 a : Nat) (G : Nat → Nat), k + 1 ≤ a → a ≤ n → n + k ≤ 2 * a + 2 * m0 → dn3 (n + k) m0 a G = Fx → ∀ (H : Heap) (locs : List Loc) (cw : va_W) (V1 : Nat → Nat → Int32) (ls : Array Slot), xs D s A H locs cw tys → xc 114 12 213 224 ad cI cw0 V1 vs cw → (∀ r, r ≠ 218 → V1 r = V r) → dHas (V1 218) n G → lv_has ls 7 [(4, .int (nI a)), (1, .int (nI k)), (0, .ref (ad 114))] → W p l e (y_rm xNex) s m [Value.ref (ad 114)].toArray below meth c H locs 0 0 Q (F0 m 99 ls []) := by
    intro k hk Fx hFx m0
    induction m0 with
    | zero =>
      intro a G ha han hm0 hG H locs cw V1 ls hs hc hkp hH hl
      refine lv_iload (i := 4) hF.1 hF.2.1 (y_dcd_ok (by decide +kernel)) (lv_at hl 0 rfl) ?_
      refine lv_aload_n (k := 0) hF.1 hF.2.1 (y_dcd_ok (by decide +kernel)) rfl (lv_at hl 2 rfl) ?_
      refine xgo (n := 9003) (index := 850) hF hs hc rfl 133 (by decide) (by decide +kernel) hv.h133 (by decide +kernel) ?_
      refine lv_iconst (n := 1) (v := 1) hF.1 hF.2.1 (y_dcd_ok (by decide +kernel)) (by decide) ?_
      refine lv_isub hF.1 hF.2.1 (y_dcd_ok (by decide +kernel)) ?_
      refine lv_iload (i := 4) hF.1 hF.2.1 (y_dcd_ok (by decide +kernel)) (lv_at hl 0 rfl) ?_
      refine lv_iload_n (k := 1) hF.1 hF.2.1 (y_dcd_ok (by decide +kernel)) rfl (lv_at hl 1 rfl) ?_
      refine lv_isub hF.1 hF.2.1 (y_dcd_ok (by decide +kernel)) ?_
      refine lv_iconst (n := 1) (v := 1) hF.1 hF.2.1 (y_dcd_ok (by decide +kernel)) (by decide) ?_
      refine lv_isub hF.1 hF.2.1 (y_dcd_ok (by decide +kernel)) ?_
      refine lv_isub hF.1 hF.2.1 (y_dcd_ok (by decide +kernel)) ?_
      rw [dni_two (by omega) (by omega) (by omega)]
      refine lv_icmp_ge (off := 56) (tgt := 170) hF.1 hF.2.1 (y_dcd_ok (by decide +kernel)) (by decide) (fun hq => ?_) (fun hq => ?_)
      · show W _ _ _ _ _ _ _ _ _ _ _ _ _ _ _ (F0 m 170 ls [])
        refine lv_iconst (n := 1) (v := 1) hF.1 hF.2.1 (y_dcd_ok (by decide +kernel)) (by decide) ?_
        exact ki _ _ cw tys ls _ _ .boolean rfl rfl (by decide +kernel) hs ⟨rfl, V1, hc, hkp, Or.inr ⟨rfl, Fx, hFx, by rw [← hG]; exact hH⟩⟩
      · exact absurd ((dni_le (by omega) (by omega)).mpr (by omega)) hq
    | succ m0 ih =>
      intro a G ha han hm0 hG H locs cw V1 ls hs hc hkp hH hl
      refine lv_iload (i := 4) hF.1 hF.2.1 (y_dcd_ok (by decide +kernel)) (lv_at hl 0 rfl) ?_
      refine lv_aload_n (k := 0) hF.1 hF.2.1 (y_dcd_ok (by decide +kernel)) rfl (lv_at hl 2 rfl) ?_
      refine xgo (n := 9003) (index := 850) hF hs hc rfl 133 (by decide) (by decide +kernel) hv.h133 (by decide +kernel) ?_
      refine lv_iconst (n := 1) (v := 1) hF.1 hF.2.1 (y_dcd_ok (by decide +kernel)) (by decide) ?_
      refine lv_isub hF.1 hF.2.1 (y_dcd_ok (by decide +kernel)) ?_
      refine lv_iload (i := 4) hF.1 hF.2.1 (y_dcd_ok (by decide +kernel)) (lv_at hl 0 rfl) ?_
      refine lv_iload_n (k := 1) hF.1 hF.2.1 (y_dcd_ok (by decide +kernel)) rfl (lv_at hl 1 rfl) ?_
      refine lv_isub hF.1 hF.2.1 (y_dcd_ok (by decide +kernel)) ?_
      refine lv_iconst (n := 1) (v := 1) hF.1 hF.2.1 (y_dcd_ok (by decide +kernel)) (by decide) ?_
      refine lv_isub hF.1 hF.2.1 (y_dcd_ok (by decide +kernel)) ?_
      refine lv_isub hF.1 hF.2.1 (y_dcd_ok (by decide +kernel)) ?_
      rw [dni_two (by omega) (by omega) (by omega)]
      refine lv_icmp_ge (off := 56) (tgt := 170) hF.1 hF.2.1 (y_dcd_ok (by decide +kernel)) (by decide) (fun hq => ?_) (fun hq => ?_)
      · have hge := (dni_le (by omega) (by omega)).mp hq
        have hG' : G = Fx := by
          rw [← hG]
          show G = cond (Nat.blt (a + a) (n + k)) _ _
          cases hb : Nat.blt (a + a) (n + k) with
          | true =>
            have : a + a < n + k := Nat.le_of_ble_eq_true hb
            omega
          | false => rfl
        show W _ _ _ _ _ _ _ _ _ _ _ _ _ _ _ (F0 m 170 ls [])
        refine lv_iconst (n := 1) (v := 1) hF.1 hF.2.1 (y_dcd_ok (by decide +kernel)) (by decide) ?_
        exact ki _ _ cw tys ls _ _ .boolean rfl rfl (by decide +kernel) hs ⟨rfl, V1, hc, hkp, Or.inr ⟨rfl, Fx, hFx, by rw [← hG']; exact hH⟩⟩
      have hlt : ¬ n + k - a ≤ a := fun z => hq ((dni_le (by omega) (by omega)).mpr z)
      have hG' : dn3 (n + k) m0 (a + 1) (dupd (dupd G a (G (n + k - a))) (n + k - a) (G a)) = Fx := by
        rw [← hG]
        show _ = cond (Nat.blt (a + a) (n + k)) _ _
        have : Nat.blt (a + a) (n + k) = true := Nat.ble_eq_true_of_le (by omega)
        rw [this]
        rfl
      obtain ⟨bb, hbb⟩ : ∃ bb, bb = n + k - a := ⟨_, rfl⟩
      rw [← hbb] at hG'
      have hbn : bb < n := by omega
      have ha7 : a < 7 := by omega
      have hb7 : bb < 7 := by omega
      refine lv_aload_n (k := 0) hF.1 hF.2.1 (y_dcd_ok (by decide +kernel)) rfl (lv_at hl 2 rfl) ?_
      refine xgo (n := 9003) (index := 850) hF hs hc rfl 133 (by decide) (by decide +kernel) hv.h133 (by decide +kernel) ?_
      refine lv_iconst (n := 1) (v := 1) hF.1 hF.2.1 (y_dcd_ok (by decide +kernel)) (by decide) ?_
      refine lv_isub hF.1 hF.2.1 (y_dcd_ok (by decide +kernel)) ?_
      refine lv_iload (i := 4) hF.1 hF.2.1 (y_dcd_ok (by decide +kernel)) (lv_at hl 0 rfl) ?_
      refine lv_iload_n (k := 1) hF.1 hF.2.1 (y_dcd_ok (by decide +kernel)) rfl (lv_at hl 1 rfl) ?_
      refine lv_isub hF.1 hF.2.1 (y_dcd_ok (by decide +kernel)) ?_
      refine lv_iconst (n := 1) (v := 1) hF.1 hF.2.1 (y_dcd_ok (by decide +kernel)) (by decide) ?_
      refine lv_isub hF.1 hF.2.1 (y_dcd_ok (by decide +kernel)) ?_
      refine lv_isub hF.1 hF.2.1 (y_dcd_ok (by decide +kernel)) ?_
      rw [dni_two (by omega) (by omega) (by omega), ← hbb]
      refine lv_istore (nL := 7) (i := 5) hF.1 hF.2.1 (y_dcd_ok (by decide +kernel)) hl (by decide) rfl (fun ls hl => ?_)
      refine lv_aload_n (k := 0) hF.1 hF.2.1 (y_dcd_ok (by decide +kernel)) rfl (lv_at hl 3 rfl) ?_
      refine xgo (n := 9009) (index := 322) hF hs hc rfl 139 (by decide) (by decide +kernel) hv.h139 (by decide +kernel) ?_
      refine lv_iload (i := 4) hF.1 hF.2.1 (y_dcd_ok (by decide +kernel)) (lv_at hl 1 rfl) ?_
      refine xaldN (r := 218) hF hs hT hc (by decide) (by decide) ha7 (by decide +kernel) ?_
      refine lv_istore (nL := 7) (i := 6) hF.1 hF.2.1 (y_dcd_ok (by decide +kernel)) hl (by decide) rfl (fun ls hl => ?_)
      refine lv_aload_n (k := 0) hF.1 hF.2.1 (y_dcd_ok (by decide +kernel)) rfl (lv_at hl 4 rfl) ?_
      refine xgo (n := 9009) (index := 322) hF hs hc rfl 139 (by decide) (by decide +kernel) hv.h139 (by decide +kernel) ?_
      refine lv_iload (i := 4) hF.1 hF.2.1 (y_dcd_ok (by decide +kernel)) (lv_at hl 2 rfl) ?_
      refine lv_aload_n (k := 0) hF.1 hF.2.1 (y_dcd_ok (by decide +kernel)) rfl (lv_at hl 4 rfl) ?_
      refine xgo (n := 9009) (index := 322) hF hs hc rfl 139 (by decide) (by decide +kernel) hv.h139 (by decide +kernel) ?_
      refine lv_iload (i := 5) hF.1 hF.2.1 (y_dcd_ok (by decide +kernel)) (lv_at hl 1 rfl) ?_
      refine xaldN (r := 218) hF hs hT hc (by decide) (by decide) hb7 (by decide +kernel) ?_
      refine xastN (r := 218) hF hs hT (by decide) hc (by decide) (by decide) ha7 (by decide +kernel) (fun H locs cw hs hc => ?_)
      refine lv_aload_n (k := 0) hF.1 hF.2.1 (y_dcd_ok (by decide +kernel)) rfl (lv_at hl 4 rfl) ?_
      refine xgo (n := 9009) (index := 322) hF hs hc rfl 139 (by decide) (by decide +kernel) hv.h139 (by decide +kernel) ?_
      refine lv_iload (i := 5) hF.1 hF.2.1 (y_dcd_ok (by decide +kernel)) (lv_at hl 1 rfl) ?_
      refine lv_iload (i := 6) hF.1 hF.2.1 (y_dcd_ok (by decide +kernel)) (lv_at hl 0 rfl) ?_
      refine xastN (r := 218) hF hs hT (by decide) hc (by decide) (by decide) hb7 (by decide +kernel) (fun H locs cw hs hc => ?_)
      refine lv_iinc (nL := 7) (i := 4) (n := 1) (k := 2) (v := nI (a + 1)) hF.1 hF.2.1 (y_dcd_ok (by decide +kernel)) hl rfl (dni_add (by omega)) (by decide) rfl (fun ls hl => ?_)
      refine lv_goto (off := (-68)) (tgt := 99) hF.1 hF.2.1 (y_dcd_ok (by decide +kernel)) (by decide) ?_
      refine ih (a + 1) _ (by omega) (by omega) (by omega) hG' _ _ cw _ ls hs hc (fun r hr => ?_) ?_ (lv_sub hl [0, 3, 4] rfl)
      · rw [xup_n _ _ _ hr, xup_n _ _ _ hr]
        exact hkp r hr
      · rw [xup_s, xup_s, (hH bb hbn).1, (hH a (by omega)).1]
        exact dHas_upd (dHas_upd hH (hH bb hbn).2) (hH a (by omega)).2
  -- the swap
  have part3 : ∀ (k i : Nat), k + 1 < n → dn1 F (n - 1) = k + 1 → dn2 F (F k) (n - 1) = i → i < n → ∀ (ls : Array Slot), lv_has ls 7 [(2, .int (nI i)), (1, .int (nI k)), (0, .ref (ad 114))] → W p l e (y_rm xNex) s m [Value.ref (ad 114)].toArray below meth c s.heap [] 0 0 Q (F0 m 68 ls []) := by
    intro k i hk h1 h2 hi ls hl
    have hi7 : i < 7 := by omega
    have hk7 : k < 7 := by omega
    refine lv_aload_n (k := 0) hF.1 hF.2.1 (y_dcd_ok (by decide +kernel)) rfl (lv_at hl 2 rfl) ?_
    refine xgo (n := 9009) (index := 322) hF hs hc rfl 139 (by decide) (by decide +kernel) hv.h139 (by decide +kernel) ?_
    refine lv_iload_n (k := 2) hF.1 hF.2.1 (y_dcd_ok (by decide +kernel)) rfl (lv_at hl 0 rfl) ?_
    refine xaldN (r := 218) hF hs hT hc (by decide) (by decide) hi7 (by decide +kernel) ?_
    refine lv_istore_n (nL := 7) (k := 3) hF.1 hF.2.1 (y_dcd_ok (by decide +kernel)) rfl hl (by decide) rfl (fun ls hl => ?_)
    refine lv_aload_n (k := 0) hF.1 hF.2.1 (y_dcd_ok (by decide +kernel)) rfl (lv_at hl 3 rfl) ?_
    refine xgo (n := 9009) (index := 322) hF hs hc rfl 139 (by decide) (by decide +kernel) hv.h139 (by decide +kernel) ?_
    refine lv_iload_n (k := 2) hF.1 hF.2.1 (y_dcd_ok (by decide +kernel)) rfl (lv_at hl 1 rfl) ?_
    refine lv_aload_n (k := 0) hF.1 hF.2.1 (y_dcd_ok (by decide +kernel)) rfl (lv_at hl 3 rfl) ?_
    refine xgo (n := 9009) (index := 322) hF hs hc rfl 139 (by decide) (by decide +kernel) hv.h139 (by decide +kernel) ?_
    refine lv_iload_n (k := 1) hF.1 hF.2.1 (y_dcd_ok (by decide +kernel)) rfl (lv_at hl 2 rfl) ?_
    refine xaldN (r := 218) hF hs hT hc (by decide) (by decide) hk7 (by decide +kernel) ?_
    refine xastN (r := 218) hF hs hT (by decide) hc (by decide) (by decide) hi7 (by decide +kernel) (fun H locs cw hs hc => ?_)
    refine lv_aload_n (k := 0) hF.1 hF.2.1 (y_dcd_ok (by decide +kernel)) rfl (lv_at hl 3 rfl) ?_
    refine xgo (n := 9009) (index := 322) hF hs hc rfl 139 (by decide) (by decide +kernel) hv.h139 (by decide +kernel) ?_
    refine lv_iload_n (k := 1) hF.1 hF.2.1 (y_dcd_ok (by decide +kernel)) rfl (lv_at hl 2 rfl) ?_
    refine lv_iload_n (k := 3) hF.1 hF.2.1 (y_dcd_ok (by decide +kernel)) rfl (lv_at hl 0 rfl) ?_
    refine xastN (r := 218) hF hs hT (by decide) hc (by decide) (by decide) hk7 (by decide +kernel) (fun H locs cw hs hc => ?_)
    refine lv_iload_n (k := 1) hF.1 hF.2.1 (y_dcd_ok (by decide +kernel)) rfl (lv_at hl 2 rfl) ?_
    refine lv_iconst (n := 1) (v := 1) hF.1 hF.2.1 (y_dcd_ok (by decide +kernel)) (by decide) ?_
    refine lv_iadd hF.1 hF.2.1 (y_dcd_ok (by decide +kernel)) ?_
    rw [dni_add1 (by omega)]
    refine lv_istore (nL := 7) (i := 4) hF.1 hF.2.1 (y_dcd_ok (by decide +kernel)) hl (by decide) rfl (fun ls hl => ?_)
    refine loop3 k hk _ (by unfold dnx; rw [h1]) 7 (k + 1) _ (by omega) (by omega) (by omega) rfl _ _ cw _ ls hs hc (fun r hr => ?_) ?_ (lv_sub hl [0, 3, 4] rfl)
    · rw [xup_n _ _ _ hr, xup_n _ _ _ hr]
    · rw [xup_s, xup_s, h2, (hF0 k (by omega)).1, (hF0 i hi).1]
      exact dHas_upd (dHas_upd hF0 (hF0 k (by omega)).2) (hF0 i hi).2
  -- the second loop
  have loop2 : ∀ (k : Nat), k + 1 < n → dn1 F (n - 1) = k + 1 → F k ≤ F (k + 1) → ∀ (i : Nat), k + 1 ≤ i → i < n → dn2 F (F k) i = dn2 F (F k) (n - 1) → ∀ (ls : Array Slot), lv_has ls 7 [(2, .int (nI i)), (1, .int (nI k)), (0, .ref (ad 114))] → W p l e (y_rm xNex) s m [Value.ref (ad 114)].toArray below meth c s.heap [] 0 0 Q (F0 m 47 ls []) := by
    intro k hk h1 hkk i
    induction i with
    | zero => intro h; omega
    | succ i ih =>
      intro hki hin h2 ls hl
      have hi7 : i + 1 < 7 := by omega
      have hk7 : k < 7 := by omega
      have hFk := (hF0 k (by omega)).2
      have hFi := (hF0 (i + 1) hin).2
      have hdn : dn2 F (F k) (i + 1) = cond (Nat.blt (F (i + 1)) (F k)) (dn2 F (F k) i) (i + 1) := rfl
      refine lv_aload_n (k := 0) hF.1 hF.2.1 (y_dcd_ok (by decide +kernel)) rfl (lv_at hl 2 rfl) ?_
      refine xgo (n := 9009) (index := 322) hF hs hc rfl 139 (by decide) (by decide +kernel) hv.h139 (by decide +kernel) ?_
      refine lv_iload_n (k := 2) hF.1 hF.2.1 (y_dcd_ok (by decide +kernel)) rfl (lv_at hl 0 rfl) ?_
      refine xaldN (r := 218) hF hs hT hc (by decide) (by decide) hi7 (by decide +kernel) ?_
      refine lv_aload_n (k := 0) hF.1 hF.2.1 (y_dcd_ok (by decide +kernel)) rfl (lv_at hl 2 rfl) ?_
      refine xgo (n := 9009) (index := 322) hF hs hc rfl 139 (by decide) (by decide +kernel) hv.h139 (by decide +kernel) ?_
      refine lv_iload_n (k := 1) hF.1 hF.2.1 (y_dcd_ok (by decide +kernel)) rfl (lv_at hl 1 rfl) ?_
      refine xaldN (r := 218) hF hs hT hc (by decide) (by decide) hk7 (by decide +kernel) ?_
      rw [(hF0 (i + 1) hin).1, (hF0 k (by omega)).1]
      refine lv_icmp_ge (off := 9) (tgt := 68) hF.1 hF.2.1 (y_dcd_ok (by decide +kernel)) (by decide) (fun hq => ?_) (fun hq => ?_)
      · have hge := (dni_le (by omega) (by omega)).mp hq
        have hb : Nat.blt (F (i + 1)) (F k) = false := by
          cases hb : Nat.blt (F (i + 1)) (F k) with
          | true => exact absurd (Nat.le_of_ble_eq_true hb) (by omega)
          | false => rfl
        rw [hb] at hdn
        exact part3 k (i + 1) hk h1 (by rw [← h2, hdn]; rfl) hin ls hl
      have hlt : F (i + 1) < F k := Nat.not_le.mp (fun z => hq ((dni_le (by omega) (by omega)).mpr z))
      have hb : Nat.blt (F (i + 1)) (F k) = true := Nat.ble_eq_true_of_le hlt
      rw [hb] at hdn
      have hik : k + 1 ≠ i + 1 := fun z => by
        have : k = i := by omega
        rw [← this] at hlt
        omega
      refine lv_iinc (nL := 7) (i := 2) (n := (-1)) (k := 0) (v := nI i) hF.1 hF.2.1 (y_dcd_ok (by decide +kernel)) hl rfl (by rw [dni_dec]; exact dni_sub (by omega)) (by decide) rfl (fun ls hl => ?_)
      refine lv_goto (off := (-18)) (tgt := 47) hF.1 hF.2.1 (y_dcd_ok (by decide +kernel)) (by decide) ?_
      exact ih (by omega) (by omega) (by rw [← h2, hdn]; rfl) ls hl
  -- the first loop
  have loop1 : ∀ (j : Nat), j < n → dn1 F j = dn1 F (n - 1) → ∀ (ls : Array Slot), lv_has ls 7 [(1, .int (nI j - 1)), (0, .ref (ad 114))] → W p l e (y_rm xNex) s m [Value.ref (ad 114)].toArray below meth c s.heap [] 0 0 Q (F0 m 7 ls []) := by
    intro j
    induction j with
    | zero =>
      intro hj h1 ls hl
      refine lv_iload_n (k := 1) hF.1 hF.2.1 (y_dcd_ok (by decide +kernel)) rfl (lv_at hl 0 rfl) ?_
      refine lv_if_lt (off := 26) (tgt := 34) hF.1 hF.2.1 (y_dcd_ok (by decide +kernel)) (by decide) (fun hq => ?_) (fun hq => ?_)
      · show W _ _ _ _ _ _ _ _ _ _ _ _ _ _ _ (F0 m 34 ls [])
        refine lv_iload_n (k := 1) hF.1 hF.2.1 (y_dcd_ok (by decide +kernel)) rfl (lv_at hl 0 rfl) ?_
        refine lv_if_ge (off := 5) (tgt := 40) hF.1 hF.2.1 (y_dcd_ok (by decide +kernel)) (by decide) (fun hq => ?_) (fun hq => ?_)
        · exact absurd hq (by decide)
        refine lv_iconst (n := 0) (v := 0) hF.1 hF.2.1 (y_dcd_ok (by decide +kernel)) (by decide) ?_
        exact ki _ _ cw tys ls _ _ .boolean rfl rfl (by decide +kernel) hs ⟨rfl, V, hc, fun _ _ => rfl, Or.inl ⟨rfl, by unfold dnx; rw [← h1]; rfl⟩⟩
      · exact absurd (by decide) hq
    | succ j ih =>
      intro hj h1 ls hl
      have hj7 : j < 7 := by omega
      have hj8 : j + 1 < 7 := by omega
      have hFj := (hF0 j (by omega)).2
      have hFs := (hF0 (j + 1) hj).2
      rw [dni_sub (by omega)] at hl
      have hdn : dn1 F (j + 1) = cond (Nat.blt (F (j + 1)) (F j)) (dn1 F j) (j + 1) := rfl
      refine lv_iload_n (k := 1) hF.1 hF.2.1 (y_dcd_ok (by decide +kernel)) rfl (lv_at hl 0 rfl) ?_
      refine lv_if_lt (off := 26) (tgt := 34) hF.1 hF.2.1 (y_dcd_ok (by decide +kernel)) (by decide) (fun hq => ?_) (fun hq => ?_)
      · exact absurd ((dni_lt (j := 0) (by omega) (by omega)).mp hq) (by omega)
      refine lv_aload_n (k := 0) hF.1 hF.2.1 (y_dcd_ok (by decide +kernel)) rfl (lv_at hl 1 rfl) ?_
      refine xgo (n := 9009) (index := 322) hF hs hc rfl 139 (by decide) (by decide +kernel) hv.h139 (by decide +kernel) ?_
      refine lv_iload_n (k := 1) hF.1 hF.2.1 (y_dcd_ok (by decide +kernel)) rfl (lv_at hl 0 rfl) ?_
      refine xaldN (r := 218) hF hs hT hc (by decide) (by decide) hj7 (by decide +kernel) ?_
      rw [(hF0 j (by omega)).1]
      refine lv_aload_n (k := 0) hF.1 hF.2.1 (y_dcd_ok (by decide +kernel)) rfl (lv_at hl 1 rfl) ?_
      refine xgo (n := 9009) (index := 322) hF hs hc rfl 139 (by decide) (by decide +kernel) hv.h139 (by decide +kernel) ?_
      refine lv_iload_n (k := 1) hF.1 hF.2.1 (y_dcd_ok (by decide +kernel)) rfl (lv_at hl 0 rfl) ?_
      refine lv_iconst (n := 1) (v := 1) hF.1 hF.2.1 (y_dcd_ok (by decide +kernel)) (by decide) ?_
      refine lv_iadd hF.1 hF.2.1 (y_dcd_ok (by decide +kernel)) ?_
      rw [dni_add1 (by omega)]
      refine xaldN (r := 218) hF hs hT hc (by decide) (by decide) hj8 (by decide +kernel) ?_
      rw [(hF0 (j + 1) hj).1]
      refine lv_icmp_le (off := 9) (tgt := 34) hF.1 hF.2.1 (y_dcd_ok (by decide +kernel)) (by decide) (fun hq => ?_) (fun hq => ?_)
      · have hle := (dni_le (by omega) (by omega)).mp hq
        have hb : Nat.blt (F (j + 1)) (F j) = false := by
          cases hb : Nat.blt (F (j + 1)) (F j) with
          | true => exact absurd (Nat.le_of_ble_eq_true hb) (by omega)
          | false => rfl
        rw [hb] at hdn
        show W _ _ _ _ _ _ _ _ _ _ _ _ _ _ _ (F0 m 34 ls [])
        refine lv_iload_n (k := 1) hF.1 hF.2.1 (y_dcd_ok (by decide +kernel)) rfl (lv_at hl 0 rfl) ?_
        refine lv_if_ge (off := 5) (tgt := 40) hF.1 hF.2.1 (y_dcd_ok (by decide +kernel)) (by decide) (fun hq => ?_) (fun hq => ?_)
        rotate_left
        · exact absurd ((dni_le (i := 0) (by omega) (by omega)).mpr (by omega)) hq
        show W _ _ _ _ _ _ _ _ _ _ _ _ _ _ _ (F0 m 40 ls [])
        refine lv_aload_n (k := 0) hF.1 hF.2.1 (y_dcd_ok (by decide +kernel)) rfl (lv_at hl 1 rfl) ?_
        refine xgo (n := 9003) (index := 850) hF hs hc rfl 133 (by decide) (by decide +kernel) hv.h133 (by decide +kernel) ?_
        refine lv_iconst (n := 1) (v := 1) hF.1 hF.2.1 (y_dcd_ok (by decide +kernel)) (by decide) ?_
        refine lv_isub hF.1 hF.2.1 (y_dcd_ok (by decide +kernel)) ?_
        rw [show nI n - 1 = nI (n - 1) from by rw [show n = (n - 1) + 1 by omega]; exact dni_sub (by omega)]
        refine lv_istore_n (nL := 7) (k := 2) hF.1 hF.2.1 (y_dcd_ok (by decide +kernel)) rfl hl (by decide) rfl (fun ls hl => ?_)
        exact loop2 j (by omega) (by rw [← h1, hdn]; rfl) hle (n - 1) (by omega) (by omega) rfl ls hl
      have hlt : F (j + 1) < F j := Nat.not_le.mp (fun z => hq ((dni_le (by omega) (by omega)).mpr z))
      have hb : Nat.blt (F (j + 1)) (F j) = true := Nat.ble_eq_true_of_le hlt
      rw [hb] at hdn
      refine lv_iinc (nL := 7) (i := 1) (n := (-1)) (k := 0) (v := nI j - 1) hF.1 hF.2.1 (y_dcd_ok (by decide +kernel)) hl rfl dni_dec (by decide) rfl (fun ls hl => ?_)
      refine lv_goto (off := (-24)) (tgt := 7) hF.1 hF.2.1 (y_dcd_ok (by decide +kernel)) (by decide) ?_
      exact ih (by omega) (by rw [← h1, hdn]; rfl) ls hl
  refine lv_aload_n (k := 0) hF.1 hF.2.1 (y_dcd_ok (by decide +kernel)) rfl (lv_at hl 0 rfl) ?_
  refine xgo (n := 9003) (index := 850) hF hs hc rfl 133 (by decide) (by decide +kernel) hv.h133 (by decide +kernel) ?_
  refine lv_iconst (n := 2) (v := 2) hF.1 hF.2.1 (y_dcd_ok (by decide +kernel)) (by decide) ?_
  refine lv_isub hF.1 hF.2.1 (y_dcd_ok (by decide +kernel)) ?_
  refine lv_istore_n (nL := 7) (k := 1) hF.1 hF.2.1 (y_dcd_ok (by decide +kernel)) rfl hl (by decide) rfl (fun ls hl => ?_)
  by_cases hn0 : n = 0
  · subst hn0
    refine lv_iload_n (k := 1) hF.1 hF.2.1 (y_dcd_ok (by decide +kernel)) rfl (lv_at hl 0 rfl) ?_
    refine lv_if_lt (off := 26) (tgt := 34) hF.1 hF.2.1 (y_dcd_ok (by decide +kernel)) (by decide) (fun hq => ?_) (fun hq => ?_)
    · show W _ _ _ _ _ _ _ _ _ _ _ _ _ _ _ (F0 m 34 ls [])
      refine lv_iload_n (k := 1) hF.1 hF.2.1 (y_dcd_ok (by decide +kernel)) rfl (lv_at hl 0 rfl) ?_
      refine lv_if_ge (off := 5) (tgt := 40) hF.1 hF.2.1 (y_dcd_ok (by decide +kernel)) (by decide) (fun hq => ?_) (fun hq => ?_)
      · exact absurd hq (by decide)
      refine lv_iconst (n := 0) (v := 0) hF.1 hF.2.1 (y_dcd_ok (by decide +kernel)) (by decide) ?_
      exact ki _ _ cw tys ls _ _ .boolean rfl rfl (by decide +kernel) hs ⟨rfl, V, hc, fun _ _ => rfl, Or.inl ⟨rfl, rfl⟩⟩
    · exact absurd (by decide) hq
  · refine loop1 (n - 1) (by omega) rfl ls ?_
    have e : nI n - 2 = nI (n - 1) - 1 := by
      apply Int32.toInt_inj.mp
      have e1 : (1 : Int32).toInt = 1 := by decide
      have e2 : (2 : Int32).toInt = 2 := by decide
      have h1 := dni_int (k := n) (by omega)
      have h2 := dni_int (k := n - 1) (by omega)
      rw [di_sub (by omega) (by omega), di_sub (by omega) (by omega)]
      omega
    rw [e] at hl
    exact hl
end XE
