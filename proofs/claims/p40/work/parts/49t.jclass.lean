-- journeys of the class: harvest, findAll
abbrev xHar : yMR := xmr ⟨"RailwayHouse$Journeys", "harvest", "(II)V"⟩ prog_3_method_10_code 6 none ⟨3, 0, 0, 113⟩ 1
abbrev xFiA : yMR := xmr ⟨"RailwayHouse$Journeys", "findAll", "(III)I"⟩ prog_3_method_4_code 7 (some .int) ⟨4, 0, 0, 146⟩ 1
theorem jVc_ns {X : jT} {V V1 : Nat → Nat → Int32} {L L1 : Nat → Nat → Int64} (h : jns V V1 L L1) (hX : jVc X V) : jVc X V1 := by
  unfold jVc
  rw [h.1 83 (by decide), h.1 84 (by decide), h.1 85 (by decide), h.1 86 (by decide), h.1 80 (by decide), h.1 81 (by decide)]
  exact hX
theorem jns_tr {V V1 V2 : Nat → Nat → Int32} {L L1 L2 : Nat → Nat → Int64} (h : jns V V1 L L1) (h' : jns V1 V2 L1 L2) : jns V V2 L L2 := ⟨fun q hq => (h'.1 q hq).trans (h.1 q hq), fun q hq => (h'.2 q hq).trans (h.2 q hq)⟩
theorem jVc_X {X : jT} {V : Nat → Nat → Int32} (_ : jVc X V) (hz : jX X) : jX X := hz
section YD
variable {l : Launch} {D : va_G} {b : Nat → Nat} {cw : va_W} {tys : List (ClassId × FieldType)} {sz : Nat} {ad : Nat → Nat} {cI : Nat → ClassId} {V : Nat → Nat → Int32} {L : Nat → Nat → Int64}
set_option maxHeartbeats 4000000 in
theorem jM_har {u v : Nat} (huv : jUV u v) {ho he : Int32} {X : jT} (hX : jVc X V) (hT : xgT jI jJ cI tys) {K : List jO} (hc : jW ad cI (nI K.length) u v (nI X.n) ho he V L cw) {B : jB} (hB : jtab B (V u) (L (u + 1))) {to m0 : Nat} (hto : to < 8) (hm0 : m0 ≤ 4) {F l0 tl : List jO} (hF : F.Pairwise jbl) (hFm : ∀ x ∈ F, jfm x) (hl0 : l0 ++ (jcr X B to m0 0 ++ tl) = F) (hop : jop l0 K) (hro : jro K V L) : Met l (y_y xHar) (y_ws ztb xHar) (y_rm xHar) (y_Pc znw b zcls D cw tys sz [.ref (ad 93), .int (nI to), .int (nI m0)]) (y_Q zcls D (fun cw' tys' rv => rv = none ∧ tys' = tys ∧ ∃ K' V' L', jW ad cI (nI K'.length) u v (nI X.n) ho he V' L' cw' ∧ jns V V' L L' ∧ jro K' V' L' ∧ jop (l0 ++ jcr X B to m0 0) K') cw sz) 0 0 (va_A cw sz) := by
  refine xMet (tb := ytb yw00) (mr := xHar) yo_yr21 (fun x hx => by cases hx) (Nat.le_of_ble_eq_true rfl) ?_
  intro p e s m below meth c Q ls hsz hF' hs hl kv ki
  have hl : lv_has ls 6 [(0, .ref (ad 93)), (1, .int (nI to)), (2, .int (nI m0))] := hl
  generalize va_A cw sz = A at *
  obtain ⟨⟨huI, huJ⟩, hvI, hvJ⟩ := jUV_ok huv
  have hn := hX.n
  have hu4 : ¬ (94 ≤ u ∧ u ≤ 96) ∧ u + 1 ≠ 97 := by rcases huv with ⟨a, _⟩ | ⟨a, _⟩ <;> omega
  obtain ⟨hFF⟩ : Nonempty (F.Pairwise jbl) := ⟨hF⟩
  replace hF := hF'
  clear hF'
  have loopR : ∀ (d r : Nat), r + d = X.n → ∀ (H : Heap) (locs : List Loc) (cw : va_W) (V1 : Nat → Nat → Int32) (L1 : Nat → Nat → Int64) (K : List jO) (l1 : List jO) (ls : Array Slot), xs D s A H locs cw tys → jW ad cI (nI K.length) u v (nI X.n) ho he V1 L1 cw → jns V V1 L L1 → jro K V1 L1 → jop l1 K → l1 ++ jcr X B to m0 r = l0 ++ jcr X B to m0 0 → lv_has ls 6 [(3, .int (nI r)), (0, .ref (ad 93)), (1, .int (nI to)), (2, .int (nI m0))] → W p l e (y_rm xHar) s m [Value.ref (ad 93), .int (nI to), .int (nI m0)].toArray below meth c H locs 0 0 Q (F0 m 2 ls []) := by
    intro d
    induction d with
    | zero =>
      intro r hrd H locs cw V1 L1 K l1 ls hs hc hns hro hop hll hl
      refine lv_iload_n (k := 3) hF.1 hF.2.1 (y_dcd_ok (by decide +kernel)) rfl (lv_at hl 0 rfl) ?_
      refine lv_aload_n (k := 0) hF.1 hF.2.1 (y_dcd_ok (by decide +kernel)) rfl (lv_at hl 1 rfl) ?_
      refine ggo (n := 3004) (index := 41) hF hs hc 93 (by decide) rfl 0 (by decide) (by decide +kernel) rfl (by decide +kernel) ?_
      refine ggo (n := 2180) (index := 48) hF hs hc 79 (by decide) rfl 2 (by decide) (by decide +kernel) rfl (by decide +kernel) ?_
      refine lv_icmp_ge (off := 94) (tgt := 104) hF.1 hF.2.1 (y_dcd_ok (by decide +kernel)) (by decide) (fun hq => ?_) (fun hq => ?_)
      · refine kv _ _ cw tys ls 104 rfl (by decide +kernel) hs ⟨rfl, rfl, K, V1, L1, hc, hns, hro, ?_⟩
        rw [jcr_n X B to m0 (by omega), List.append_nil] at hll
        rw [← hll]
        exact hop
      · exact absurd ((dni_le (by omega) (by omega)).mpr (by omega)) hq
    | succ d ih =>
      intro r hrd H locs cw V1 L1 K l1 ls hs hc hns hro hop hll hl
      have hr12 : r < 12 := by omega
      refine lv_iload_n (k := 3) hF.1 hF.2.1 (y_dcd_ok (by decide +kernel)) rfl (lv_at hl 0 rfl) ?_
      refine lv_aload_n (k := 0) hF.1 hF.2.1 (y_dcd_ok (by decide +kernel)) rfl (lv_at hl 1 rfl) ?_
      refine ggo (n := 3004) (index := 41) hF hs hc 93 (by decide) rfl 0 (by decide) (by decide +kernel) rfl (by decide +kernel) ?_
      refine ggo (n := 2180) (index := 48) hF hs hc 79 (by decide) rfl 2 (by decide) (by decide +kernel) rfl (by decide +kernel) ?_
      refine lv_icmp_ge (off := 94) (tgt := 104) hF.1 hF.2.1 (y_dcd_ok (by decide +kernel)) (by decide) (fun hq => ?_) (fun hq => ?_)
      · exact absurd ((dni_le (by omega) (by omega)).mp hq) (by omega)
      clear hq
      rw [jcr_s X B to m0 (show r < X.n by omega)] at hll
      have hSr := hX.S r hr12
      have loopJ : ∀ (dj j : Nat), j + dj = max (X.S r) 1 → ∀ (H : Heap) (locs : List Loc) (cw : va_W) (V1 : Nat → Nat → Int32) (L1 : Nat → Nat → Int64) (K : List jO) (l1 : List jO) (ls : Array Slot), xs D s A H locs cw tys → jW ad cI (nI K.length) u v (nI X.n) ho he V1 L1 cw → jns V V1 L L1 → jro K V1 L1 → jop l1 K → l1 ++ (jck X B to m0 r j ++ jcr X B to m0 (r + 1)) = l0 ++ jcr X B to m0 0 → lv_has ls 6 [(4, .int (nI j)), (3, .int (nI r)), (0, .ref (ad 93)), (1, .int (nI to)), (2, .int (nI m0))] → W p l e (y_rm xHar) s m [Value.ref (ad 93), .int (nI to), .int (nI m0)].toArray below meth c H locs 0 0 Q (F0 m 16 ls []) := by
        intro dj
        induction dj with
        | zero =>
          intro j hjd H locs cw V1 L1 K l1 ls hs hc hns hro hop hll hl
          have eS : V1 83 r = nI (X.S r) := by rw [hns.1 83 (by decide)]; exact hSr.1
          refine lv_iload (i := 4) hF.1 hF.2.1 (y_dcd_ok (by decide +kernel)) (lv_at hl 0 rfl) ?_
          refine lv_aload_n (k := 0) hF.1 hF.2.1 (y_dcd_ok (by decide +kernel)) rfl (lv_at hl 2 rfl) ?_
          refine ggo (n := 3004) (index := 41) hF hs hc 93 (by decide) rfl 0 (by decide) (by decide +kernel) rfl (by decide +kernel) ?_
          refine ggo (n := 2184) (index := 51) hF hs hc 79 (by decide) rfl 4 (by decide) (by decide +kernel) rfl (by decide +kernel) ?_
          refine lv_iload_n (k := 3) hF.1 hF.2.1 (y_dcd_ok (by decide +kernel)) rfl (lv_at hl 1 rfl) ?_
          refine gald hF hs hT hc 83 12 (by decide) (by decide) hr12 (by decide +kernel) ?_
          rw [eS]
          refine lv_icmp_ge (off := 71) (tgt := 98) hF.1 hF.2.1 (y_dcd_ok (by decide +kernel)) (by decide) (fun hq => ?_) (fun hq => ?_)
          · rw [jck_n X B to m0 r (by omega), List.nil_append] at hll
            refine lv_iinc (nL := 6) (i := 3) (n := 1) (k := 1) (v := nI (r + 1)) hF.1 hF.2.1 (y_dcd_ok (by decide +kernel)) hl rfl (dni_add (by omega)) (by decide) rfl (fun ls hl => ?_)
            refine lv_goto (off := (-99)) (tgt := 2) hF.1 hF.2.1 (y_dcd_ok (by decide +kernel)) (by decide) ?_
            exact ih (r + 1) (by omega) _ _ cw V1 L1 K l1 ls hs hc hns hro hop hll (lv_sub hl [0, 2, 3, 4] rfl)
          · exact absurd ((dni_le (by omega) (by omega)).mpr (by omega)) hq
        | succ dj ihj =>
          intro j hjd H locs cw V1 L1 K l1 ls hs hc hns hro hop hll hl
          have eS : V1 83 r = nI (X.S r) := by rw [hns.1 83 (by decide)]; exact hSr.1
          refine lv_iload (i := 4) hF.1 hF.2.1 (y_dcd_ok (by decide +kernel)) (lv_at hl 0 rfl) ?_
          refine lv_aload_n (k := 0) hF.1 hF.2.1 (y_dcd_ok (by decide +kernel)) rfl (lv_at hl 2 rfl) ?_
          refine ggo (n := 3004) (index := 41) hF hs hc 93 (by decide) rfl 0 (by decide) (by decide +kernel) rfl (by decide +kernel) ?_
          refine ggo (n := 2184) (index := 51) hF hs hc 79 (by decide) rfl 4 (by decide) (by decide +kernel) rfl (by decide +kernel) ?_
          refine lv_iload_n (k := 3) hF.1 hF.2.1 (y_dcd_ok (by decide +kernel)) rfl (lv_at hl 1 rfl) ?_
          refine gald hF hs hT hc 83 12 (by decide) (by decide) hr12 (by decide +kernel) ?_
          rw [eS]
          refine lv_icmp_ge (off := 71) (tgt := 98) hF.1 hF.2.1 (y_dcd_ok (by decide +kernel)) (by decide) (fun hq => ?_) (fun hq => ?_)
          · have hge := (dni_le (by omega) (by omega)).mp hq
            rw [jck_n X B to m0 r hge, List.nil_append] at hll
            refine lv_iinc (nL := 6) (i := 3) (n := 1) (k := 1) (v := nI (r + 1)) hF.1 hF.2.1 (y_dcd_ok (by decide +kernel)) hl rfl (dni_add (by omega)) (by decide) rfl (fun ls hl => ?_)
            refine lv_goto (off := (-99)) (tgt := 2) hF.1 hF.2.1 (y_dcd_ok (by decide +kernel)) (by decide) ?_
            exact ih (r + 1) (by omega) _ _ cw V1 L1 K l1 ls hs hc hns hro hop hll (lv_sub hl [0, 2, 3, 4] rfl)
          have hjS : j < X.S r := Nat.not_le.mp (fun z => hq ((dni_le (by omega) (by omega)).mpr z))
          clear hq
          have hp : 8 * r + j < 96 := by omega
          have hX1 := jVc_ns hns hX
          have t1 := hX1.st _ hp
          have t2 := hX1.ar _ hp
          have hBp : jr (B (8 * r + j)) (V1 u (8 * r + j)) (L1 (u + 1) (8 * r + j)) := by rw [hns.1 u hu4.1, hns.2 (u + 1) hu4.2]; exact hB _ hp
          rw [jck_s X B to m0 r hjS] at hll
          have next : ∀ (H : Heap) (locs : List Loc) (cw : va_W) (V2 : Nat → Nat → Int32) (L2 : Nat → Nat → Int64) (K2 : List jO) (ls : Array Slot), xs D s A H locs cw tys → jW ad cI (nI K2.length) u v (nI X.n) ho he V2 L2 cw → jns V V2 L L2 → jro K2 V2 L2 → jop (l1 ++ (jca X B to m0 (8 * r + j)).toList) K2 → lv_has ls 6 [(4, .int (nI j)), (3, .int (nI r)), (0, .ref (ad 93)), (1, .int (nI to)), (2, .int (nI m0))] → W p l e (y_rm xHar) s m [Value.ref (ad 93), .int (nI to), .int (nI m0)].toArray below meth c H locs 0 0 Q (F0 m 92 ls []) := by
            intro H locs cw V2 L2 K2 ls hs hc hns hro hop hl
            refine lv_iinc (nL := 6) (i := 4) (n := 1) (k := 0) (v := nI (j + 1)) hF.1 hF.2.1 (y_dcd_ok (by decide +kernel)) hl rfl (dni_add (by omega)) (by decide) rfl (fun ls hl => ?_)
            refine lv_goto (off := (-79)) (tgt := 16) hF.1 hF.2.1 (y_dcd_ok (by decide +kernel)) (by decide) ?_
            refine ihj (j + 1) (by omega) _ _ cw V2 L2 K2 _ ls hs hc hns hro hop ?_ hl
            rw [← hll]
            simp only [List.append_assoc]
          refine lv_iload_n (k := 3) hF.1 hF.2.1 (y_dcd_ok (by decide +kernel)) rfl (lv_at hl 1 rfl) ?_
          refine lv_bipush (n := 8) (v := 8) hF.1 hF.2.1 (y_dcd_ok (by decide +kernel)) (by decide) ?_
          refine lv_imul hF.1 hF.2.1 (y_dcd_ok (by decide +kernel)) ?_
          refine lv_iload (i := 4) hF.1 hF.2.1 (y_dcd_ok (by decide +kernel)) (lv_at hl 0 rfl) ?_
          refine lv_iadd hF.1 hF.2.1 (y_dcd_ok (by decide +kernel)) ?_
          rw [jpl (by omega) (by omega)]
          refine lv_istore (nL := 6) (i := 5) hF.1 hF.2.1 (y_dcd_ok (by decide +kernel)) hl (by decide) rfl (fun ls hl => ?_)
          refine lv_aload_n (k := 0) hF.1 hF.2.1 (y_dcd_ok (by decide +kernel)) rfl (lv_at hl 3 rfl) ?_
          refine ggo (n := 3014) (index := 29) hF hs hc 93 (by decide) rfl 6 (by decide) (by decide +kernel) rfl (by decide +kernel) ?_
          refine lv_iload (i := 5) hF.1 hF.2.1 (y_dcd_ok (by decide +kernel)) (lv_at hl 0 rfl) ?_
          refine gald hF hs hT hc u 96 huI (by decide) hp (by decide +kernel) ?_
          refine lv_if_eq (off := 46) (tgt := 92) hF.1 hF.2.1 (y_dcd_ok (by decide +kernel)) (by decide) (fun hq => ?_) (fun hq => ?_)
          · have e0 : B (8 * r + j) = none := by
              cases hc0 : B (8 * r + j) with
              | none => rfl
              | some x =>
                rw [hc0] at hBp
                obtain ⟨k1, _, k2, k3, _⟩ := hBp
                rw [k1] at hq
                have := dni_injb (j := 0) (by omega) (by decide) hq
                omega
            exact next _ _ cw V1 L1 K ls hs hc hns hro (by rw [show jca X B to m0 (8 * r + j) = none from by unfold jca; rw [e0]]; simpa using hop) (lv_sub hl [1, 2, 3, 4, 5] rfl)
          obtain ⟨a, ea⟩ : ∃ a, B (8 * r + j) = some a := by
            cases hc0 : B (8 * r + j) with
            | none => rw [hc0] at hBp; exact absurd hBp hq
            | some a => exact ⟨a, rfl⟩
          clear hq
          rw [ea] at hBp
          obtain ⟨k1, k2, k3, k4, k5⟩ := hBp
          refine lv_aload_n (k := 0) hF.1 hF.2.1 (y_dcd_ok (by decide +kernel)) rfl (lv_at hl 3 rfl) ?_
          refine ggo (n := 3004) (index := 41) hF hs hc 93 (by decide) rfl 0 (by decide) (by decide +kernel) rfl (by decide +kernel) ?_
          refine ggo (n := 2187) (index := 65) hF hs hc 79 (by decide) rfl 5 (by decide) (by decide +kernel) rfl (by decide +kernel) ?_
          refine lv_iload (i := 5) hF.1 hF.2.1 (y_dcd_ok (by decide +kernel)) (lv_at hl 0 rfl) ?_
          refine gald hF hs hT hc 84 96 (by decide) (by decide) hp (by decide +kernel) ?_
          rw [t1.1]
          refine lv_iload_n (k := 1) hF.1 hF.2.1 (y_dcd_ok (by decide +kernel)) rfl (lv_at hl 4 rfl) ?_
          refine lv_icmp_ne (off := 32) (tgt := 92) hF.1 hF.2.1 (y_dcd_ok (by decide +kernel)) (by decide) (fun hq => ?_) (fun hq => ?_)
          · exact next _ _ cw V1 L1 K ls hs hc hns hro (by rw [show jca X B to m0 (8 * r + j) = none from by unfold jca; rw [ea]; exact if_neg (fun z => hq (by rw [z]))]; simpa using hop) (lv_sub hl [1, 2, 3, 4, 5] rfl)
          have hst := dni_injb (by omega) (by omega) hq
          clear hq
          obtain ⟨x, hx⟩ : ∃ x : jO, x = ⟨X.ar (8 * r + j), m0, a.1, a.2⟩ := ⟨_, rfl⟩
          have hjc : jca X B to m0 (8 * r + j) = some x := by unfold jca; rw [ea, hx]; exact if_pos hst
          have hxb : jxb x := by rw [hx]; exact ⟨by show X.ar _ < 20000; omega, by show m0 < 100; omega, by show a.1 < 10000; omega, by show a.2 < 2 ^ 60; omega⟩
          rw [hjc] at hll next
          have hFx : l1 ++ x :: (jck X B to m0 r (j + 1) ++ jcr X B to m0 (r + 1) ++ tl) = F := by
            rw [← hl0, ← List.append_assoc l0, ← hll]
            simp [List.append_assoc]
          have hxl : x ∉ l1 := jbl_new hFF hFx
          have hop2 := jop_of hop hxl
          have hmem : ∀ y ∈ l1 ++ [x], y ∈ F := fun y hy => by
            rw [← hFx]
            rcases List.mem_append.mp hy with hy | hy
            · exact List.mem_append.mpr (Or.inl hy)
            · rw [List.mem_singleton.mp hy]
              exact List.mem_append.mpr (Or.inr List.mem_cons_self)
          have hK8 : K.length ≤ 148 := jnd_len (fun y hy => (hop.1 y).mp hy) hop.2 (fun y hy => hFm y (hmem y (List.mem_append.mpr (Or.inl hy))))
          have hK9 : (jof K x).length ≤ 148 := jnd_len (fun y hy => (hop2.1 y).mp hy) hop2.2 (fun y hy => hFm y (hmem y hy))
          refine lv_aload_n (k := 0) hF.1 hF.2.1 (y_dcd_ok (by decide +kernel)) rfl (lv_at hl 3 rfl) ?_
          refine lv_aload_n (k := 0) hF.1 hF.2.1 (y_dcd_ok (by decide +kernel)) rfl (lv_at hl 3 rfl) ?_
          refine ggo (n := 3004) (index := 41) hF hs hc 93 (by decide) rfl 0 (by decide) (by decide +kernel) rfl (by decide +kernel) ?_
          refine ggo (n := 2189) (index := 78) hF hs hc 79 (by decide) rfl 6 (by decide) (by decide +kernel) rfl (by decide +kernel) ?_
          refine lv_iload (i := 5) hF.1 hF.2.1 (y_dcd_ok (by decide +kernel)) (lv_at hl 0 rfl) ?_
          refine gald hF hs hT hc 85 96 (by decide) (by decide) hp (by decide +kernel) ?_
          rw [t2.1]
          refine lv_iload_n (k := 2) hF.1 hF.2.1 (y_dcd_ok (by decide +kernel)) rfl (lv_at hl 5 rfl) ?_
          refine lv_aload_n (k := 0) hF.1 hF.2.1 (y_dcd_ok (by decide +kernel)) rfl (lv_at hl 3 rfl) ?_
          refine ggo (n := 3014) (index := 29) hF hs hc 93 (by decide) rfl 6 (by decide) (by decide +kernel) rfl (by decide +kernel) ?_
          refine lv_iload (i := 5) hF.1 hF.2.1 (y_dcd_ok (by decide +kernel)) (lv_at hl 0 rfl) ?_
          refine gald hF hs hT hc u 96 huI (by decide) hp (by decide +kernel) ?_
          rw [k1]
          refine lv_aload_n (k := 0) hF.1 hF.2.1 (y_dcd_ok (by decide +kernel)) rfl (lv_at hl 3 rfl) ?_
          refine ggo (n := 3015) (index := 32) hF hs hc 93 (by decide) rfl 7 (by decide) (by decide +kernel) rfl (by decide +kernel) ?_
          refine lv_iload (i := 5) hF.1 hF.2.1 (y_dcd_ok (by decide +kernel)) (lv_at hl 0 rfl) ?_
          refine glald hF hs hT hc (u + 1) 96 huJ (by decide) hp (by decide +kernel) ?_
          rw [k2]
          subst hx
          refine xcallV (As := [.int (nI (X.ar (8 * r + j))), .int (nI m0), .int (nI a.1), .long (nL a.2)]) (rest := []) (n := 7188) (j := 87) hF hs hl.1 (hc.hO 93 (by decide)) (cm := xOff) yo_yr22 rfl (by decide) (by decide +kernel) (show _ = some 4 from by decide +kernel) (by decide +kernel) ⟨by decide, by decide⟩ ⟨rfl, rfl⟩ (Nat.le_of_ble_eq_true rfl) ⟨Nat.zero_le _, Nat.zero_le _⟩ (by
            have hM := jM_off (l := l) (D := D) (b := b) (sz := Array.size H) (x := ⟨X.ar (8 * r + j), m0, a.1, a.2⟩) hT hK8 hc hro hxb (fun y z hy hz => jof_keep hop hy hz) (fun hno => by
              have : jof K ⟨X.ar (8 * r + j), m0, a.1, a.2⟩ = jin (K.filter fun y => !(decide (jle ⟨X.ar (8 * r + j), m0, a.1, a.2⟩ y))) ⟨X.ar (8 * r + j), m0, a.1, a.2⟩ := if_neg (fun z => by
                obtain ⟨y, hy, hg⟩ := List.any_eq_true.mp z
                exact hno y hy (of_decide_eq_true hg))
              rw [this] at hK9
              have h2 := jat_le (K.filter fun y => !(decide (jle ⟨X.ar (8 * r + j), m0, a.1, a.2⟩ y))) ⟨X.ar (8 * r + j), m0, a.1, a.2⟩ (K.filter fun y => !(decide (jle ⟨X.ar (8 * r + j), m0, a.1, a.2⟩ y))).length
              unfold jin at hK9
              rw [List.length_append, List.length_cons, List.length_take, List.length_drop] at hK9
              omega)
            exact hM) (fun H2 locs2 cw2 tys2 rv hs hX2 => ?_)
          obtain ⟨e1, e2', V2, L2, c2, n2, o2⟩ := hX2
          subst e1
          rw [e2'] at hs
          show W _ _ _ _ _ _ _ _ _ _ _ _ _ _ _ (F0 m 92 ls [])
          exact next _ _ cw2 V2 L2 _ ls hs c2 (jns_tr hns n2) o2 hop2 (lv_sub hl [1, 2, 3, 4, 5] rfl)
      refine lv_iconst (n := 1) (v := 1) hF.1 hF.2.1 (y_dcd_ok (by decide +kernel)) (by decide) ?_
      refine lv_istore (nL := 6) (i := 4) hF.1 hF.2.1 (y_dcd_ok (by decide +kernel)) hl (by decide) rfl (fun ls hl => ?_)
      exact loopJ (max (X.S r) 1 - 1) 1 (by omega) _ _ cw V1 L1 K l1 ls hs hc hns hro hop hll hl
  refine lv_iconst (n := 0) (v := 0) hF.1 hF.2.1 (y_dcd_ok (by decide +kernel)) (by decide) ?_
  refine lv_istore_n (nL := 6) (k := 3) hF.1 hF.2.1 (y_dcd_ok (by decide +kernel)) rfl hl (by decide) rfl (fun ls hl => ?_)
  exact loopR X.n 0 (by omega) _ _ cw V L K l0 ls hs hc ⟨fun _ _ => rfl, fun _ _ => rfl⟩ hro hop rfl hl
end YD
