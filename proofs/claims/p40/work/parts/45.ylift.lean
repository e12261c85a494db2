-- a contract keeps whatever speaks of other cells alone
theorem y_Met_post {l : Launch} {y : MethodName} {ws : List Jvm.Cond} {rm : Room} {Pc : Array Value → State → Prop} {Qc Qc' : Array Value → State → Outcome → State → Prop} {mc ms : Nat} {free : Addr → Prop} (h : Met l y ws rm Pc Qc mc ms free) (hq : ∀ a st o t, Qc a st o t → Qc' a st o t) : Met l y ws rm Pc Qc' mc ms free := by
  intro p e h1 h2 h3 s m args below h4 h5 h6 h7
  obtain ⟨n, o, a1, a2, a3, a4, a5⟩ := h p e h1 h2 h3 s m args below h4 h5 h6 h7
  exact ⟨n, o, a1, a2, a3, hq _ _ _ _ a4, a5⟩
theorem y_Con_lift {wt : zTB} {nw : List Jvm.Cond} {cls : List vw_C} {l : Launch} {D : va_G} {K K' : va_W → Prop} {tb : yTb} {c : yCN} (h : y_Con wt nw cls l D K tb c) (hK : ∀ cw cw', y_same tb.1.length c.2.2.2.2 cw cw' → K' cw → K' cw') : y_Con wt nw cls l D (fun cw => K cw ∧ K' cw) tb c := by
  intro b cw tys tg sz av gs h1 h2 h3 h4 h5
  refine y_Met_post (h b cw tys tg sz av gs h1 h2 h3 h4 h5.1) ?_
  rintro a st o t ⟨⟨cw', tys', rv, q1, q2, q3, q4, q5⟩, hF⟩
  obtain ⟨tg', oo, k1, k2, k3, k4, k5, k6, k7, k8⟩ := q5
  exact ⟨⟨cw', tys', rv, q1, q2, q3, q4, tg', oo, k1, k2, k3, k4, k5, k6, k7, k8, hK _ _ k6 h5.2⟩, hF⟩
