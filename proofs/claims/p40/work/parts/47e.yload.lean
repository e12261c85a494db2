-- the launch, the classes
variable {l : Launch} {D : va_G}
-- load
def ob114 : yV → Bool
  | .inr (.inr (.inl (some (0, k)))) => Nat.beq k 114
  | _ => false
theorem ob114_ok {v : yV} (h : ob114 v = true) : v = y_ob 0 114 := by
  unfold ob114 at h
  split at h
  · rw [Nat.eq_of_beq_eq_true h]
  · cases h
def lo114 : yLo → Bool
  | [q] => and (Nat.beq q.1 0) (ob114 q.2)
  | _ => false
def st114 : List yV → Bool
  | [v] => ob114 v
  | _ => false
def sp114 (q : Nat) : yS := fun pc lo st _ _ h => and (Nat.beq pc q) (and (lo114 lo) (and (st114 st) (y_eml h.2.2.2)))
theorem sp114_ok {q pc : Nat} {lo : yLo} {st : List yV} {n : Nat} {env : yEnv} {h : yHp} (hs : sp114 q pc lo st n env h = true) : pc = q ∧ lo = [(0, y_ob 0 114)] ∧ st = [y_ob 0 114] ∧ y_eml h.2.2.2 = true := by
  obtain ⟨h1, h2⟩ := z_and hs
  obtain ⟨h2, h3⟩ := z_and h2
  obtain ⟨h3, h4⟩ := z_and h3
  refine ⟨Nat.eq_of_beq_eq_true h1, ?_, ?_, h4⟩
  · match lo, h2 with
    | [q], h2 =>
      obtain ⟨k1, k2⟩ := z_and h2
      obtain ⟨q1, q2⟩ := q
      have k1 : q1 = 0 := Nat.eq_of_beq_eq_true k1
      have k2 : q2 = y_ob 0 114 := ob114_ok k2
      rw [k1, k2]
    | [], h2 => cases h2
    | _ :: _ :: _, h2 => cases h2
  · match st, h3 with
    | [v], h3 => rw [ob114_ok h3]
    | [], h3 => cases h3
    | _ :: _ :: _, h3 => cases h3
theorem lv114 {tb : yTb} {ρ : yRo} {b : Nat → Nat} {nL : Nat} {ls : Array Slot} {st : List yV} {cst : List Value} (h : y_Fr tb ρ b nL ls [(0, y_ob 0 114)] st cst) : ∃ a, (y_ad ρ)[114]? = some a ∧ lv_has ls nL [(0, .ref a)] := by
  obtain ⟨⟨lv, h1, h2⟩, _⟩ := h
  match lv, h1, h2 with
  | [(k, v)], h1, ⟨⟨e1, a, e2, e3⟩, _⟩ =>
    have e1 : 0 = k := e1
    have e3 : v = .ref a := e3
    subst e1
    subst e3
    exact ⟨a, e2, h1⟩
  | [], _, h2 => exact h2.elim
  | _ :: _ :: _, _, ⟨_, h2⟩ => exact h2.elim
theorem K3_st : y_Kst (ytb ywS1) K3 := fun cw cw' hs h => ⟨y_KV_st (tb := ytb ywS1) (y_outB_ok (by decide +kernel)) cw cw' hs h.1, y_KV_st (tb := ytb ywS1) (y_outB_ok (by decide +kernel)) cw cw' hs h.2.1, y_KV_st (tb := ytb ywS1) (y_outB_ok (by decide +kernel)) cw cw' hs h.2.2⟩
theorem KN_st : y_Kst (ytb ywS1) yKN := y_KV_st (tb := ytb ywS1) (y_outB_ok (by decide +kernel))
theorem KL_st : y_Kst (ytb ywS1) yKL := y_KV_st (tb := ytb ywS1) (y_outB_ok (by decide +kernel))
theorem ldSnd {b : Nat → Nat} {K : va_W → Prop} (hKs : y_Kst (ytb ywS1) K) (fu : Nat) : y_Snd ztb znw zcls (y_hnL []) (ytb ywS1) l D K b (y_rm yrLd).frames fu :=
  y_snd (yAll ywS1) ySh_ok hKs (fun _ cn h hf hw => y_Con_K (yKm_iff (w := ywS1) (y_wle_ok hw).2.1 (fun q hq => by cases hq)) (y_Con_tb rfl rfl rfl (yCon' (List.mem_of_getElem? h)))) (y_hnL_ok y_fornil) fu
section YLd
variable {b : Nat → Nat} {p : Program} {e : Env} {s : State} {m : MethodId} {args : Array Value} {below : List Frame} {meth : Method} {c : Code} {A : Nat → Prop} {Q : State → Prop}
/-- heap, cells, types: what goes on from piece to piece -/
def ldS (D : va_G) (s : State) (A : Nat → Prop) (K : va_W → Prop) (w : yWr) (cw0 : va_W) (tg0 : List yC) (a : Nat) (H : Heap) (locs : List Loc) (cw : va_W) (tys : List (ClassId × FieldType)) (tg : List yC) : Prop := va_K D zcls tys s ∧ va_P D zcls cw H ∧ va_D A cw ∧ va_S A s.heap H locs ∧ y_WT (ytb yw00) zcls tys tg cw ∧ K cw ∧ y_same (ytb yw00).1.length w cw0 cw ∧ (∀ (p : Nat) (t : yC), tg0[p]? = some t → tg[p]? = some t) ∧ (cw.map Prod.fst)[114]? = some a
theorem y_WT_tb {w w' : yWr} {tys : List (ClassId × FieldType)} {tg : List yC} {cw : va_W} (h : y_WT (ytb w) zcls tys tg cw) : y_WT (ytb w') zcls tys tg cw := h
theorem ldRun {K : va_W → Prop} {bb : Bool} {ix : Nat} (hKs : y_Kst (ytb ywS1) K) (hF : y_Fix ztb znw b zcls (ytb ywS1) p (y_rm yrLd) s m args meth c A yrLd) {pc q : Nat} {st : List yV} {cst : List Value} {k : yK} {w : yWr} {cw0 cw : va_W} {tg0 tg : List yC} {a : Nat} {H : Heap} {locs : List Loc} {tys : List (ClassId × FieldType)} {ls : Array Slot} (hw : y_wle (ytb w) ywS1 = true) (hS : ldS D s A K w cw0 tg0 a H locs cw tys tg) (hls : lv_has ls (y_mL yrLd) [(0, .ref a)]) (hst : y_SR (y_g (ytb ywS1) ([], fun _ => none, cw.map Prod.fst, tg) b) st cst) {fu : Nat} (hev : y_ev (y_hnL []) (ytb ywS1) fu (fun pc lo st n env h => and bb (sp114 q pc lo st n env h)) yrLd ((y_cd yrLd).drop ix) pc [(0, y_ob 0 114)] st 0 [] ([], [], [], []) k = true)
    (hE : (∃ n env h r, k n env h r = true) → ∀ (H' : Heap) (locs' : List Loc) (cw' : va_W) (tys' : List (ClassId × FieldType)) (tg' : List yC) (ls' : Array Slot) (pc' : Nat) (x : Int32), ldS D s A K w cw0 tg0 a H' locs' cw' tys' tg' → decode (y_cc yrLd) pc' = .ok (.ireturn, 1) → W p l e (y_rm yrLd) s m args below meth c H' locs' 0 0 Q (F0 m pc' ls' [.int x]))
    (hT : bb = true → ∀ (H' : Heap) (locs' : List Loc) (cw' : va_W) (tys' : List (ClassId × FieldType)) (tg' : List yC) (ls' : Array Slot), ldS D s A K w cw0 tg0 a H' locs' cw' tys' tg' → y_same (ytb yw00).1.length ywS1 cw cw' → lv_has ls' (y_mL yrLd) [(0, .ref a)] → W p l e (y_rm yrLd) s m args below meth c H' locs' 0 0 Q (F0 m q ls' [.ref a]))
    (hk : ∀ n env h r, k n env h r = true → y_eml h.2.2.2 = true) : W p l e (y_rm yrLd) s m args below meth c H locs 0 0 Q (F0 m pc ls cst) := by
  obtain ⟨s1, s2, s3, s4, s5, s6, s7, s8, s9⟩ := hS
  obtain ⟨w1, w2, w3⟩ := y_wle_ok hw
  have hle : ∀ {cw' : va_W}, y_same (ytb ywS1).1.length ywS1 cw cw' → y_same (ytb yw00).1.length w cw0 cw' := fun z => y_same_trans s7 (y_same_le w1 w2 w3 z)
  have had : ∀ {ρ : yRo} {cw' : va_W} {a' : Nat}, y_rle ([], fun _ => none, cw.map Prod.fst, tg) ρ → y_ad ρ = cw'.map Prod.fst → (y_ad ρ)[114]? = some a' → a' = a ∧ (cw'.map Prod.fst)[114]? = some a := fun {ρ cw' a'} z1 z2 z3 => by
    have := z1.2.2.1 114 a s9
    rw [this] at z3
    exact ⟨(Option.some.inj z3).symm, by rw [← z2]; exact this⟩
  refine ldSnd hKs fu p e (y_rm yrLd) s m args below meth c A cw ([], fun _ => none, cw.map Prod.fst, tg) 0 0 (fun pc lo st n env h => and bb (sp114 q pc lo st n env h)) yrLd Q hF (Nat.le_refl _) (Nat.zero_le _) (Nat.zero_le _) k ?_ ?_ ([], fun _ => none, cw.map Prod.fst, tg) H locs cw tys ls cst ((y_cd yrLd).drop ix) pc [(0, y_ob 0 114)] st 0 [] ([], [], [], []) (fun x hx => ⟨x, List.mem_of_mem_drop hx, rfl⟩) (y_rle_refl _) (y_St0 s1 s2 s3 s4 (y_WT_tb s5) s6 (y_same_refl _ _ _)) ⟨⟨[(0, .ref a)], hls, ⟨rfl, a, s9, rfl⟩, trivial⟩, hst⟩ hev
  · intro ρ1 H1 locs1 cw1 tys1 ls1 cst1 pc1 n1 env1 h1 r hle1 hSt hk1 hret
    obtain ⟨hK1, hP1, hD1, hS1, had1, hW1, hKK1, hsame1, he1, hr1, hf1, hx1, hsl1, hps1, hps01⟩ := hSt
    have hKK1 := y_KL_nil hKs (hk _ _ _ _ hk1) hKK1
    have hS' : ldS D s A K w cw0 tg0 a H1 locs1 cw1 tys1 (y_tg ρ1) := ⟨hK1, hP1, hD1, hS1, y_WT_tb hW1, hKK1, hle hsame1, fun p t z => hle1.2.2.2 p t (s8 p t z), by rw [← had1]; exact hle1.2.2.1 114 a s9⟩
    rcases hret with ⟨rfl, rfl, h3, h4⟩ | ⟨a, x, ty, rfl, rfl, h3, h4, h5, h6⟩ | ⟨a, v, ty, rfl, rfl, h3, h4, h5, h6, h7⟩ | ⟨a, x, rfl, rfl, h3, h4, h5⟩
    · cases h3
    · exact hE ⟨_, _, _, _, hk1⟩ H1 locs1 cw1 tys1 (y_tg ρ1) ls1 pc1 x hS' h6
    · rcases h6 with ⟨n, h6⟩ | ⟨t, h6⟩
      · rw [h6] at h5
        cases h5
      · rw [h6] at h5
        cases h5
    · cases h4
  · intro ρ1 H1 locs1 cw1 tys1 ls1 cst1 pc1 lo1 st1 n1 env1 h1 hle1 hSt hFr hsp
    obtain ⟨hK1, hP1, hD1, hS1, had1, hW1, hKK1, hsame1, he1, hr1, hf1, hx1, hsl1, hps1, hps01⟩ := hSt
    obtain ⟨hbb, hsp⟩ := z_and hsp
    obtain ⟨rfl, rfl, rfl, hem⟩ := sp114_ok hsp
    have hKK1 := y_KL_nil hKs hem hKK1
    have hS' : ldS D s A K w cw0 tg0 a H1 locs1 cw1 tys1 (y_tg ρ1) := ⟨hK1, hP1, hD1, hS1, y_WT_tb hW1, hKK1, hle hsame1, fun p t z => hle1.2.2.2 p t (s8 p t z), by rw [← had1]; exact hle1.2.2.1 114 a s9⟩
    obtain ⟨a', b1, b2⟩ := lv114 hFr
    have e1 := (had hle1 had1 b1).1
    subst e1
    obtain ⟨_, hSR⟩ := hFr
    have : cst1 = [.ref a'] := by
      match cst1, hSR with
      | [v], ⟨⟨a2, z1, z2⟩, _⟩ =>
        rw [b1] at z1
        cases z1
        rw [z2]
      | [], z => exact z.elim
      | _ :: _ :: _, ⟨_, z⟩ => exact z.elim
    subst this
    exact hT hbb H1 locs1 cw1 tys1 (y_tg ρ1) ls1 hS' hsame1 b2
end YLd
