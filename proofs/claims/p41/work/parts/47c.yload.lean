-- load: its pieces are among the contracts
theorem yfR_eq : ∀ c ∈ yfR, (y_y c.1, y_ws ztb c.1, y_rm c.1, y_mL c.1, c.2.1, c.2.2.1) = (y_y ycRL.1, y_ws ztb ycRL.1, y_rm ycRL.1, y_mL ycRL.1, ycRL.2.1, []) := y_forall rfl <| y_forall rfl <| y_forall rfl <| y_forall rfl <| y_forall rfl <| y_forall rfl <| y_forall rfl <| y_forall rfl <| y_forall rfl <| y_forall rfl <| y_forall rfl <| y_forall rfl <| y_forall rfl <| y_forall rfl <| y_forall rfl <| y_forall rfl <| y_fornil
theorem yfT_eq : ∀ c ∈ yfT, (y_y c.1, y_ws ztb c.1, y_rm c.1, y_mL c.1, c.2.1, c.2.2.1) = (y_y ycTL.1, y_ws ztb ycTL.1, y_rm ycTL.1, y_mL ycTL.1, ycTL.2.1, []) := y_forall rfl <| y_forall rfl <| y_forall rfl <| y_forall rfl <| y_forall rfl <| y_forall rfl <| y_forall rfl <| y_forall rfl <| y_forall rfl <| y_forall rfl <| y_forall rfl <| y_forall rfl <| y_forall rfl <| y_forall rfl <| y_forall rfl <| y_forall rfl <| y_forall rfl <| y_forall rfl <| y_forall rfl <| y_forall rfl <| y_forall rfl <| y_forall rfl <| y_forall rfl <| y_forall rfl <| y_forall rfl <| y_forall rfl <| y_forall rfl <| y_forall rfl <| y_forall rfl <| y_forall rfl <| y_forall rfl <| y_forall rfl <| y_forall rfl <| y_forall rfl <| y_forall rfl <| y_forall rfl <| y_forall rfl <| y_forall rfl <| y_forall rfl <| y_forall rfl <| y_fornil
theorem yfT_S {g : Nat} (hg : g < 24) {c : yCN} (h : yfS[g]? = some c) : c ∈ yfT := by
  have : yfT = yfS ++ yfK := rfl
  rw [this]
  exact List.mem_append_left _ (List.mem_of_getElem? h)
theorem yfT_K {g : Nat} (hg : g < 16) {c : yCN} (h : yfK[g]? = some c) : c ∈ yfT := by
  have : yfT = yfS ++ yfK := rfl
  rw [this]
  exact List.mem_append_right _ (List.mem_of_getElem? h)
theorem yhsr (w : yWr) : ∀ q ∈ lAG, ∃ kd E, kd < 3 ∧ (ytb w).1[q.1]? = some (.inr (kd, q.2, .inl E)) := y_forall ⟨_, _, by decide, rfl⟩ <| y_forall ⟨_, _, by decide, rfl⟩ <| y_forall ⟨_, _, by decide, rfl⟩ <| y_forall ⟨_, _, by decide, rfl⟩ <| y_forall ⟨_, _, by decide, rfl⟩ <| y_forall ⟨_, _, by decide, rfl⟩ <| y_forall ⟨_, _, by decide, rfl⟩ <| y_forall ⟨_, _, by decide, rfl⟩ <| y_forall ⟨_, _, by decide, rfl⟩ <| y_forall ⟨_, _, by decide, rfl⟩ <| y_fornil
theorem yhsf (w : yWr) : ∀ q ∈ sFA, ∃ ci ts E c, (ytb w).1[q.1]? = some (.inl (ci, ts)) ∧ ts[q.2]? = some (.inl E) ∧ zcls[ci]? = some c ∧ q.2 < c.2.2 := y_forall ⟨_, _, _, _, rfl, rfl, rfl, by decide⟩ <| y_forall ⟨_, _, _, _, rfl, rfl, rfl, by decide⟩ <| y_forall ⟨_, _, _, _, rfl, rfl, rfl, by decide⟩ <| y_forall ⟨_, _, _, _, rfl, rfl, rfl, by decide⟩ <| y_fornil
def K3 (cw : va_W) : Prop := yKN cw ∧ yKL cw ∧ yKTt cw
def yKW : va_W → Prop := y_KV [142, 143] [(114, 45)] PW
theorem K3_m {cw : va_W} (h : K3 cw) (w : yWr) : yKm w cw := fun q _ _ _ => by
  unfold yKK
  split
  · exact h.1
  · split
    · exact h.2.1
    · exact h.2.2
theorem y_KV_same {sR : List Nat} {sF : List (Nat × Nat)} {P : yVw → Prop} {n0 : Nat} {wr : yWr} (ho : y_out n0 wr sR sF) {cw cw' : va_W} (hs : y_same n0 wr cw cw') (h : y_KV sR sF P cw) : y_KV sR sF P cw' := by
  obtain ⟨h1, h2⟩ := y_vw_same ho hs h.1
  exact ⟨h1, by rw [h2]; exact h.2⟩
theorem fR_out : ∀ c ∈ yfR, y_outB (ytb yw00).1.length c.2.2.2.2 sR_L sF_L = true ∧ y_outB (ytb yw00).1.length c.2.2.2.2 sR_T sF_T = true := by decide +kernel
theorem fT_out : ∀ c ∈ yfT, y_outB (ytb yw00).1.length c.2.2.2.2 sR_N sF_N = true ∧ y_outB (ytb yw00).1.length c.2.2.2.2 [142, 143] [(114, 45)] = true := by decide +kernel
theorem fT_mk : ∀ c ∈ yfT, yMB c.2.2.2.2 0 = true := by decide +kernel
variable {l : Launch} {D : va_G}
theorem yCon' {c : yCN} (h : c ∈ ycs) : y_Con ztb znw zcls l D (yKm c.2.2.2.2) (ytb yw00) c := yCon _ c h (Nat.lt_succ_self _)
theorem fR_con : ∀ c ∈ yfR, y_Con ztb znw zcls l D (fun cw => yKm c.2.2.2.2 cw ∧ yKL cw ∧ yKTt cw) (ytb yw00) c := fun c hc => y_Con_lift (yCon' (yfR_in c hc)) (fun cw cw' hs h => ⟨y_KV_same (y_outB_ok (fR_out c hc).1) hs h.1, y_KV_same (y_outB_ok (fR_out c hc).2) hs h.2⟩)
theorem fT_con : ∀ c ∈ yfT, y_Con ztb znw zcls l D (fun cw => yKm c.2.2.2.2 cw ∧ yKN cw ∧ yKW cw) (ytb yw00) c := fun c hc => y_Con_lift (yCon' (yfT_in c hc)) (fun cw cw' hs h => ⟨y_KV_same (y_outB_ok (fT_out c hc).1) hs h.1, y_KV_same (y_outB_ok (fT_out c hc).2) hs h.2⟩)
theorem FR_con : y_Con ztb znw zcls l D (fun cw => yKm ycFR.2.2.2.2 cw ∧ yKN cw) (ytb yw00) ycFR := y_Con_lift (yCon' (List.mem_of_getElem? (i := yiFR) rfl)) (fun cw cw' hs h => y_KV_same (y_outB_ok (by decide +kernel)) hs h)
theorem BH_con : y_Con ztb znw zcls l D (fun cw => yKm ycBH.2.2.2.2 cw ∧ yKN cw ∧ yKL cw) (ytb yw00) ycBH := y_Con_lift (yCon' (List.mem_of_getElem? (i := yiBH) rfl)) (fun cw cw' hs h => ⟨y_KV_same (y_outB_ok (by decide +kernel)) hs h.1, y_KV_same (y_outB_ok (by decide +kernel)) hs h.2⟩)
