-- the law: its tables, what its calls keep
theorem lwOb_ok {k : Nat} {v : yV} (h : lwOb k v = true) : v = y_ob 0 k := by
  unfold lwOb at h
  split at h
  · rw [Nat.eq_of_beq_eq_true h]
  · cases h
theorem lwLo_ok {lo : yLo} (h : lwLo lo = true) : lo = lwL := by
  unfold lwLo at h
  split at h
  · obtain ⟨h1, h2⟩ := z_and h
    obtain ⟨h2, h3⟩ := z_and h2
    obtain ⟨h3, h4⟩ := z_and h3
    rw [y_eqv_ok h1, lwOb_ok h2, lwOb_ok h3, y_isS_ok h4]
    rfl
  · cases h
theorem lw_kc {wr : yWr} (h : y_kc wr = true) : ∃ q ∈ wr.2.1, 900 ≤ q ∧ q ≤ 999 := by
  unfold y_kc at h
  generalize wr.2.1 = l at h
  induction l with
  | nil => cases h
  | cons a l ih =>
    rw [y_fl_cons, Bool.or_eq_true, Bool.and_eq_true] at h
    rcases h with ⟨z1, z2⟩ | h
    · exact ⟨a, List.mem_cons_self, z_le_of z1, z_le_of z2⟩
    · obtain ⟨q, z1, z2⟩ := ih h
      exact ⟨q, List.mem_cons_of_mem _ z1, z2⟩
theorem y_cal_ext2 {S : List yC} {T R : yC} {ms ms' : List yMR} {cs cs' : List yCN} {w w' : yWr} {x1 x2 : Nat} {f : yMR → Bool} (h : y_cal (S, T, R, ms, cs, w) x1 x2 f = true) : y_cal (S, T, R, ms ++ ms', cs ++ cs', w') x1 x2 f = true := by
  unfold y_cal at h ⊢
  rcases y_bool h with ⟨hb, h⟩ | ⟨hb, h⟩
  · rw [hb]
    obtain ⟨a, h1, h2⟩ := z_opl_ok h
    exact z_opl_mk (show (cs ++ cs')[x1]? = some a by rw [List.getElem?_append_left (List.getElem?_eq_some_iff.mp h1).1]; exact h1) h2
  · rw [hb]
    obtain ⟨a, h1, h2⟩ := z_opl_ok h
    exact z_opl_mk (show (ms ++ ms')[x1]? = some a by rw [List.getElem?_append_left (List.getElem?_eq_some_iff.mp h1).1]; exact h1) h2
theorem y_okE_ext2 {wt : zTB} {nw : List Jvm.Cond} {cls : List vw_C} {S : List yC} {T R : yC} {ms ms' : List yMR} {cs cs' : List yCN} {w w' : yWr} {mr : yMR} {x : yEnt} (h : y_okE wt nw cls (S, T, R, ms, cs, w) mr x = true) : y_okE wt nw cls (S, T, R, ms ++ ms', cs ++ cs', w') mr x = true := by
  obtain ⟨q, i, x1, x2, x3, fl⟩ := x
  obtain ⟨h1, h2⟩ := z_and h
  refine Bool.and_eq_true_iff.mpr ⟨h1, ?_⟩
  cases i with
  | invokevirtual j =>
    have h2 : y_cal (S, T, R, ms, cs, w) x1 x2 (fun cm => and (and (Nat.blt (y_ci cm) (cond (Nat.ble 300 (x2 % 1000)) 100 99)) (decide ((y_y cm).name ≠ "<init>"))) (and (decide ((parseMethodDescriptor (y_y cm).desc).map (fun d => d.parameters.length) = some (x2 % 100))) (z_w wt x3 (.methodLink (y_y mr).cls j (y_y cm))))) = true := h2
    exact y_cal_ext2 (ms' := ms') (cs' := cs') (w' := w') h2
  | invokestatic j =>
    have h2 : cond (Nat.ble 2000 x2) (z_w wt x3 (.methodLink (y_y mr).cls j (y_natn x2))) (y_cal (S, T, R, ms, cs, w) x1 x2 fun cm => y_oks wt nw mr j x2 x3 cm) = true := h2
    show cond (Nat.ble 2000 x2) (z_w wt x3 (.methodLink (y_y mr).cls j (y_natn x2))) (y_cal (S, T, R, ms ++ ms', cs ++ cs', w') x1 x2 fun cm => y_oks wt nw mr j x2 x3 cm) = true
    rcases y_bool h2 with ⟨hb, h2⟩ | ⟨hb, h2⟩
    · rw [hb]
      exact h2
    · rw [hb]
      exact y_cal_ext2 h2
  | _ => exact h2
theorem yAll2 {ms' : List yMR} {cs' : List yCN} {w : yWr} (hm : ∀ cm ∈ ms', y_okM ztb zcls cm ∧ ∀ x ∈ y_cd cm, y_okE ztb znw zcls (ySh, yTrn, yTrw, yms ++ ms', ycs ++ cs', w) cm x = true) (hc : ∀ c ∈ cs', y_okM ztb zcls c.1) : y_All ztb znw zcls zzty zzdv (ySh, yTrn, yTrw, yms ++ ms', ycs ++ cs', w) := by
  refine ⟨(yAll w).1, (yAll w).2.1, fun n cm h => ?_, fun n c h => ?_⟩
  · have h : (yms ++ ms')[n]? = some cm := h
    by_cases hn : n < yms.length
    · rw [List.getElem?_append_left hn] at h
      obtain ⟨h1, h2⟩ := (yAll w).2.2.1 n cm h
      exact ⟨h1, fun x hx => y_okE_ext2 (h2 x hx)⟩
    · rw [List.getElem?_append_right (by omega)] at h
      exact hm cm (List.mem_of_getElem? h)
  · have h : (ycs ++ cs')[n]? = some c := h
    by_cases hn : n < ycs.length
    · rw [List.getElem?_append_left hn] at h
      exact (yAll w).2.2.2 n c h
    · rw [List.getElem?_append_right (by omega)] at h
      exact hc c (List.mem_of_getElem? h)
theorem yAllC (w : yWr) : y_All ztb znw zcls zzty zzdv (ytbC w) := yAll2 y_fornil (y_forall yo_yrBA2 (y_forall yo_yrTB2 y_fornil))
theorem yAllL (w : yWr) : y_All ztb znw zcls zzty zzdv (ytbL w) := yAll2 yAL (y_forall yo_yrLd (y_forall yo_yrCl2 (y_forall yo_yrXC2 y_fornil)))
theorem K3_stL : y_Kst (ytbL ywLw) K3 := fun cw cw' hs h => ⟨y_KV_st (tb := ytbL ywLw) (y_outB_ok (by decide +kernel)) cw cw' hs h.1, y_KV_st (tb := ytbL ywLw) (y_outB_ok (by decide +kernel)) cw cw' hs h.2.1, y_KV_st (tb := ytbL ywLw) (y_outB_ok (by decide +kernel)) cw cw' hs h.2.2⟩
theorem K3_stZ : y_Kst (ytbL ywLz) K3 := fun cw cw' hs h => ⟨y_KV_st (tb := ytbL ywLz) (y_outB_ok (by decide +kernel)) cw cw' hs h.1, y_KV_st (tb := ytbL ywLz) (y_outB_ok (by decide +kernel)) cw cw' hs h.2.1, y_KV_st (tb := ytbL ywLz) (y_outB_ok (by decide +kernel)) cw cw' hs h.2.2⟩
theorem y_same_sub {n0 : Nat} {w w' : yWr} {cw cw' : va_W} (h1 : ∀ q ∈ w.1, q.1 < n0 → q ∈ w'.1) (h2 : ∀ r ∈ w.2.1, r < n0 → r ∈ w'.2.1) (h3 : w.2.2 = true → w'.2.2 = true) (h : y_same n0 w cw cw') : y_same n0 w' cw cw' := by
  have h3' : w'.2.2 = false → w.2.2 = false := fun z => by
    cases hz : w.2.2 with
    | false => rfl
    | true => rw [h3 hz] at z; cases z
  refine ⟨h.1, fun p a ci vs q => ?_, fun p e q hx z1 z2 => h.2.2 p e q hx (fun y m => z1 y (h2 p m y)) (fun y => h3' (z2 y))⟩
  obtain ⟨vs', g1, g2⟩ := h.2.1 p a ci vs q
  exact ⟨vs', g1, fun f z1 z2 => g2 f (fun y m => z1 y (h1 _ m y)) (fun y => h3' (z2 y))⟩
def y_subB (n0 : Nat) (w w' : yWr) : Bool := w.1.all (fun q => !(decide (q.1 < n0)) || w'.1.contains q) && w.2.1.all (fun r => !(decide (r < n0)) || w'.2.1.contains r) && (!w.2.2 || w'.2.2)
theorem y_subB_ok {n0 : Nat} {w w' : yWr} {cw cw' : va_W} (h : y_subB n0 w w' = true) (hs : y_same n0 w cw cw') : y_same n0 w' cw cw' := by
  obtain ⟨h1, h3⟩ := Bool.and_eq_true_iff.mp h
  obtain ⟨h1, h2⟩ := Bool.and_eq_true_iff.mp h1
  refine y_same_sub (fun q hq hl => ?_) (fun r hr hl => ?_) (fun z => ?_) hs
  · have := List.all_eq_true.mp h1 q hq
    simpa [hl] using this
  · have := List.all_eq_true.mp h2 r hr
    simpa [hl] using this
  · simpa [z] using h3
/-- nothing is laid out, no train is there: the laws hold -/
theorem K3_zero {tys : List (ClassId × FieldType)} {tg : List yC} {cw : va_W} (hW : y_WT (ytb yw00) zcls tys tg cw) (hN : yKN cw) (hKW : yKW cw) (h1 : (y_fld cw cM fSec).toInt = 0) (h2 : (y_fld cw cM fSig).toInt = 0) (h3 : (y_fld cw cM fTrn).toInt = 0) (h4 : (y_fld cw cM fIY).toInt = 0) (hp : ∀ p : Nat, p < 8 → (y_row cw rPT p).toInt = 0) : K3 cw := by
  have hB := rowP hW
  have hJ : PJ (UV cw) rJO rISP fSec := ⟨by show 0 ≤ (y_fld cw cM fSec).toInt ∧ _; rw [show ((UV cw).2 cM fSec) = y_fld cw cM fSec from rfl]; omega, fun i hi => by
    have hi : (i : Int) < 3 * (y_fld cw cM fSec).toInt := hi
    omega⟩
  have hL : PL (UV cw) := ⟨⟨hB, hJ⟩, fun k hk => by
      have hk : (k : Int) < (y_fld cw cM fSig).toInt := hk
      omega, fun s hs => by
      have hs : (s : Int) < (y_fld cw cM fSec).toInt := hs
      omega, PW_ext (y_agr_U _ _ cw) hKW.2⟩
  exact ⟨hN, ⟨pres_L hW, PL_ext (y_agr_sym (y_agr_U sR_L sF_L cw)) hL⟩, ⟨pres_T hW, PT_ext (y_agr_sym (y_agr_U sR_T sF_T cw)) (ld_T ⟨hB, hJ⟩ h3 h4 hp)⟩⟩
section LW
variable {l : Launch} {D : va_G}
theorem yCl2 : y_Con ztb znw zcls l D yKT (ytb yw00) ycCl2 := by
  refine y_Con_tb (tb := ytbC ywCl) rfl rfl rfl (y_ctr (F := 0) (K := yKT) (yAllC ywCl) ySh_ok (fun _ _ _ _ => trivial) (fun n cn h hf hw => ?_) (fun _ => y_hn0_ok) yo_yrCl2 (List.all_eq_true.mp yq_yrCl2) rfl [] 0 y_fornil y_fornil 100000 yeCl2 y_fornil)
  have h : (ycs ++ [ycBA2, ycTB2])[n]? = some cn := h
  by_cases hn : n < ycs.length
  · rw [List.getElem?_append_left hn] at h
    refine y_Con_tb (tb := ytb yw00) rfl rfl rfl ?_
    exact y_Con_K (yKm_iff (w := ywCl) (y_wle_ok hw).2.1 (yM0 (by decide +kernel))) (yCon' (List.mem_of_getElem? h))
  · rw [List.getElem?_append_right (by omega)] at h
    rcases List.mem_cons.mp (List.mem_of_getElem? h) with h | h
    · subst h
      refine y_Con_tb (tb := ytb yw00) rfl rfl rfl ?_
      exact y_Con_K (K := yKT) (fun cw => ⟨fun _ _ => trivial, fun _ => trivial⟩) yBA2
    · have h := List.mem_singleton.mp h
      subst h
      refine y_Con_tb (tb := ytb yw00) rfl rfl rfl ?_
      exact y_Con_K (K := yKT) (fun cw => ⟨fun _ _ => trivial, fun _ => trivial⟩) yTB2
theorem yXC2 : y_Con ztb znw zcls l D yKT (ytb yw00) ycXC2 := by
  refine y_Con_tb (tb := ytbC ywXC) rfl rfl rfl (y_ctr (F := 0) (K := yKT) (yAllC ywXC) ySh_ok (fun _ _ _ _ => trivial) (fun n cn h hf hw => ?_) (fun _ => y_hn0_ok) yo_yrXC2 (List.all_eq_true.mp yq_yrXC2) rfl [] 0 y_fornil y_fornil 100000 yeXC2 y_fornil)
  have h : (ycs ++ [ycBA2, ycTB2])[n]? = some cn := h
  by_cases hn : n < ycs.length
  · rw [List.getElem?_append_left hn] at h
    refine y_Con_tb (tb := ytb yw00) rfl rfl rfl ?_
    exact y_Con_K (yKm_iff (w := ywXC) (y_wle_ok hw).2.1 (yM0 (by decide +kernel))) (yCon' (List.mem_of_getElem? h))
  · rw [List.getElem?_append_right (by omega)] at h
    rcases List.mem_cons.mp (List.mem_of_getElem? h) with h | h
    · subst h
      refine y_Con_tb (tb := ytb yw00) rfl rfl rfl ?_
      exact y_Con_K (K := yKT) (fun cw => ⟨fun _ _ => trivial, fun _ => trivial⟩) yBA2
    · have h := List.mem_singleton.mp h
      subst h
      refine y_Con_tb (tb := ytb yw00) rfl rfl rfl ?_
      exact y_Con_K (K := yKT) (fun cw => ⟨fun _ _ => trivial, fun _ => trivial⟩) yTB2
theorem y_AI_pre {n0 : Nat} {lv : List (Nat × Value)} {cw : va_W} : ∀ {a b : List yIt} {gs : List Int32}, y_AI n0 lv cw gs (a ++ b) → y_AI n0 lv cw gs a
  | [], _, _, _ => trivial
  | .inl _ :: _, _, _, ⟨x, y, h1, h2, h3, h4⟩ => ⟨x, y, h1, h2, h3, y_AI_pre h4⟩
  | .inr _ :: _, _, _, ⟨x, y, h1, h2, h3, h4⟩ => ⟨x, y, h1, h2, h3, y_AI_pre h4⟩
theorem Cl_out {cw : va_W} {tg : List yC} {cw' : va_W} {tys' : List (ClassId × FieldType)} {rv : Option Value} (hK : K3 cw) (h : y_XC zcls yKT (ytb yw00) ycCl2 [] cw tg cw' tys' rv) : y_XC zcls K3 (ytb yw00) ycCl3 [] cw tg cw' tys' rv := by
  obtain ⟨tg', o, h1, h2, h3, h4, h5, h6, h7, _⟩ := h
  have hx : ∀ o ∈ ycCl2.2.2.2.1, o.1 = some (.inl [(0, 4294967295)]) ∧ o.2.2 = itBH ++ itM ∧ ((114, 20, D0) ∈ o.2.1 ∧ (114, 27, D0) ∈ o.2.1 ∧ (114, 87, D0) ∈ o.2.1 ∧ (114, 88, D0) ∈ o.2.1) ∧ (114, lwZm, [(2147483648, 2147483648)]) ∈ o.2.1 ∧ (114, 121, [(2147483648, 2147483648)]) ∈ o.2.1 := y_forall ⟨rfl, rfl, ⟨List.mem_of_getElem? (i := 14) rfl, List.mem_of_getElem? (i := 16) rfl, List.mem_of_getElem? (i := 19) rfl, List.mem_of_getElem? (i := 4) rfl⟩, List.mem_of_getElem? (i := lwZi) rfl, List.mem_of_getElem? (i := lwZj) rfl⟩ y_fornil
  obtain ⟨x1, x2, x3, x4, x5⟩ := hx o h1
  rw [x2] at h4
  have hp := itBH_V (y_AI_V (sR := [188]) (sF := []) (y_forall rfl <| y_forall rfl <| y_forall rfl <| y_forall rfl <| y_forall rfl <| y_forall rfl <| y_forall rfl <| y_forall rfl <| y_fornil) (y_AI_pre h4))
  have hp : ∀ p : Nat, p < 8 → ((UV cw').1 rPT p).toInt = 0 := fun p q => hp p q
  have hz : ∀ f : Nat, (114, f, D0) ∈ o.2.1 → (y_fld cw' 114 f).toInt = 0 := fun f hf => by
    obtain ⟨_, a, ci, vs, x, y1, y2, y3⟩ := h3 _ hf
    rw [y_fld_eq y1 y2]
    exact i_1s y3
  refine ⟨tg', (some (.inl y_top), [(114, lwZm, [(2147483648, 2147483648)]), (114, 121, [(2147483648, 2147483648)])], itBH ++ itM), List.mem_singleton.mpr rfl, ?_, (y_forall (h3 _ x4) <| y_forall (h3 _ x5) y_fornil), h4, h5, y_subB_ok (by decide +kernel) h6, h7, K3_zero h7 (y_KV_same (y_outB_ok (by decide +kernel)) h6 hK.1) (y_KV_same (y_outB_ok (by decide +kernel)) h6 (KW_of hK.2.1)) (hz 20 x3.1) (hz 27 x3.2.1) (hz 87 x3.2.2.1) (hz 88 x3.2.2.2) hp⟩
  rw [x1] at h2
  match rv, h2 with
  | some v, ⟨x, e, _⟩ => exact ⟨x, e, y_in_top x⟩
theorem yCl3 : y_Con ztb znw zcls l D K3 (ytb yw00) ycCl3 := by
  intro b cw tys tg sz av gs h1 h2 h3 h4 h5
  have hgs : gs = [] := by
    cases gs with
    | nil => rfl
    | cons _ _ => exact h3.elim
  subst hgs
  refine y_Met_post (yCl2 b cw tys tg sz av [] h1 h2 h3 h4 trivial) ?_
  rintro a st o t ⟨⟨cw', tys', rv, q1, q2, q3, q4, q5⟩, hF⟩
  exact ⟨⟨cw', tys', rv, q1, q2, q3, q4, Cl_out h5 q5⟩, hF⟩
theorem yLd2 : y_Con ztb znw zcls l D K3 (ytb yw00) ycLd2 := by
  intro b cw tys tg sz av gs h1 h2 h3 h4 h5
  refine y_Met_post (yLoad b cw tys tg sz av gs h1 h2 h3 h4 h5) ?_
  rintro a st o t ⟨⟨cw', tys', rv, q1, q2, q3, q4, q5⟩, hF⟩
  obtain ⟨tg', oo, k1, k2, k3, k4, k5, k6, k7, k8⟩ := q5
  exact ⟨⟨cw', tys', rv, q1, q2, q3, q4, tg', oo, k1, k2, k3, k4, k5, y_subB_ok (by decide +kernel) k6, k7, k8⟩, hF⟩
def lwOut (c : yCN) : Bool := !(yMB c.2.2.2.2 992) || !(y_subB 224 ([], c.2.2.2.2.2.1, false) ([], ywLw.2.1, false)) || !(c.2.2.2.2.2.1.contains 992) || (y_outB 224 c.2.2.2.2 sR_N sF_N && y_outB 224 c.2.2.2.2 sR_L sF_L)
theorem lwOut_ok : ∀ c ∈ ycs, lwOut c = true := List.all_eq_true.mp (by decide +kernel)
theorem lwMB : yMB ywLw 992 = true := by decide +kernel
theorem lwMZ : yMB ywLz 992 = true := by decide +kernel
theorem lwCg {w : yWr} (lwMB : yMB w 992 = true) (hrow : ∀ r ∈ w.2.1, r ∈ ywLw.2.1) : ∀ (n : Nat) (cn : yCN), (ytbL w).2.2.2.2.1[n]? = some cn → (y_rm cn.1).frames < 4000 → y_wle (ytbL w) cn.2.2.2.2 = true → y_Con ztb znw zcls l D (fun cw => y_kc cn.2.2.2.2 = true → K3 cw) (ytbL w) cn := by
  intro n cn h _ hw
  have h : (ycs ++ [ycLd2, ycCl3, ycXC2])[n]? = some cn := h
  by_cases hn : n < ycs.length
  · rw [List.getElem?_append_left hn] at h
    have hin := List.mem_of_getElem? h
    have hiff := yKm_iff (w := w) (K := yKTt) (y_wle_ok hw).2.1 (yMB_ok (m := 992) lwMB (Or.inl rfl))
    have h0 := y_Con_K hiff (yCon' (l := l) (D := D) hin)
    refine y_Con_tb (tb := ytb yw00) rfl rfl rfl ?_
    cases hk : y_kc cn.2.2.2.2 with
    | false => exact y_Con_K (K := fun cw => y_kc cn.2.2.2.2 = true → yKTt cw) (K' := fun cw => false = true → K3 cw) (fun cw => ⟨fun _ z => absurd z Bool.false_ne_true, fun _ z => by rw [hk] at z; cases z⟩) h0
    | true =>
      obtain ⟨q, q1, q2, q3⟩ := lw_kc hk
      have hq : q = 992 := by
        have := List.all_eq_true.mp lwMB q ((y_wle_ok hw).2.1 q q1)
        simp only [Bool.or_eq_true, decide_eq_true_eq, beq_iff_eq] at this
        omega
      subst hq
      have ho := lwOut_ok cn hin
      have m1 : yMB cn.2.2.2.2 992 = true := List.all_eq_true.mpr fun q hq => List.all_eq_true.mp lwMB q ((y_wle_ok hw).2.1 q hq)
      have m2 : y_subB 224 ([], cn.2.2.2.2.2.1, false) ([], ywLw.2.1, false) = true := by
        simp only [y_subB, List.all_nil, Bool.true_and, Bool.not_false, Bool.true_or, Bool.and_true]
        refine List.all_eq_true.mpr fun r hr => ?_
        rw [Bool.or_eq_true]
        right
        exact List.contains_iff_mem.mpr (hrow r ((y_wle_ok hw).2.1 r hr))
      have m3 : cn.2.2.2.2.2.1.contains 992 = true := List.contains_iff_mem.mpr q1
      rw [lwOut, m1, m2, m3] at ho
      simp only [Bool.not_true, Bool.false_or, Bool.and_eq_true] at ho
      have h1 := y_Con_lift (K' := fun cw => yKN cw ∧ yKL cw) h0 (fun cw cw' hs z => ⟨y_KV_same (y_outB_ok ho.1) hs z.1, y_KV_same (y_outB_ok ho.2) hs z.2⟩)
      exact y_Con_K (K' := fun cw => true = true → K3 cw) (fun cw => ⟨fun z _ => ⟨z.2.1, z.2.2, z.1 hk⟩, fun z => ⟨fun _ => (z rfl).2.2, (z rfl).1, (z rfl).2.1⟩⟩) h1
  · rw [List.getElem?_append_right (by omega)] at h
    have hm := List.mem_of_getElem? h
    rcases List.mem_cons.mp hm with hm | hm
    · subst hm
      exact y_Con_K (fun cw => ⟨fun z _ => z, fun z => z (by decide +kernel)⟩) (y_Con_tb rfl rfl rfl yLd2)
    · rcases List.mem_cons.mp hm with hm | hm
      · subst hm
        exact y_Con_K (fun cw => ⟨fun z _ => z, fun z => z (by decide +kernel)⟩) (y_Con_tb rfl rfl rfl yCl3)
      · have hm := List.mem_singleton.mp hm
        subst hm
        exact y_Con_K (K := yKT) (fun cw => ⟨fun _ z => absurd z (by decide +kernel), fun _ => trivial⟩) (y_Con_tb rfl rfl rfl yXC2)
theorem lwC : ∀ (n : Nat) (cn : yCN), (ytbL ywLw).2.2.2.2.1[n]? = some cn → (y_rm cn.1).frames < 4000 → y_wle (ytbL ywLw) cn.2.2.2.2 = true → y_Con ztb znw zcls l D (fun cw => y_kc cn.2.2.2.2 = true → K3 cw) (ytbL ywLw) cn := lwCg lwMB (fun _ h => h)
theorem lwCz : ∀ (n : Nat) (cn : yCN), (ytbL ywLz).2.2.2.2.1[n]? = some cn → (y_rm cn.1).frames < 4000 → y_wle (ytbL ywLz) cn.2.2.2.2 = true → y_Con ztb znw zcls l D (fun cw => y_kc cn.2.2.2.2 = true → K3 cw) (ytbL ywLz) cn := lwCg lwMZ (fun r h => List.contains_iff_mem.mp (List.all_eq_true.mp (by decide +kernel : (ywLz.2.1.all fun r => ywLw.2.1.contains r) = true) r h))
theorem lwCc : ∀ (n : Nat) (cn : yCN), (ytbL ywLc).2.2.2.2.1[n]? = some cn → (y_rm cn.1).frames < 4000 → y_wle (ytbL ywLc) cn.2.2.2.2 = true → y_Con ztb znw zcls l D (fun cw => y_kc cn.2.2.2.2 = true → K3 cw) (ytbL ywLc) cn := lwCg (by decide +kernel) (fun r h => List.contains_iff_mem.mp (List.all_eq_true.mp (by decide +kernel : (ywLc.2.1.all fun r => ywLw.2.1.contains r) = true) r h))
end LW
theorem K3_stC : y_Kst (ytbL ywLc) K3 := fun cw cw' hs h => ⟨y_KV_st (tb := ytbL ywLc) (y_outB_ok (by decide +kernel)) cw cw' hs h.1, y_KV_st (tb := ytbL ywLc) (y_outB_ok (by decide +kernel)) cw cw' hs h.2.1, y_KV_st (tb := ytbL ywLc) (y_outB_ok (by decide +kernel)) cw cw' hs h.2.2⟩
theorem K3_sameS {cw cw' : va_W} (hs : y_same ySh.length ywLs cw cw') (h : K3 cw) : K3 cw' := ⟨y_KV_same (y_outB_ok (by decide +kernel)) hs h.1, y_KV_same (y_outB_ok (by decide +kernel)) hs h.2.1, y_KV_same (y_outB_ok (by decide +kernel)) hs h.2.2⟩
