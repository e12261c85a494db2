/-- the second machine is sound, for any fuel -/
theorem y_snd {wt : zTB} {nw : List Jvm.Cond} {cls : List vw_C} {zty : List (Nat → FieldType)} {zdv : List (List zAV)} {hn : yHn} {tb : yTb} {l : Launch} {D : va_G} {K : va_W → Prop} {b : Nat → Nat} {F : Nat} (hA : y_All wt nw cls zty zdv tb) (hSh : ∀ c, c ∈ tb.1 ∨ c = tb.2.1 ∨ c = tb.2.2.1 → y_shc zty c) (hKs : y_Kst tb K) (hC : ∀ (n : Nat) (cn : yCN), tb.2.2.2.2.1[n]? = some cn → (y_rm cn.1).frames < F → y_wle tb cn.2.2.2.2 = true → y_Con wt nw cls l D (fun cw => y_kc cn.2.2.2.2 = true → K cw) tb cn) (hH : y_Hint cls K hn tb b) : ∀ fu : Nat, y_Snd wt nw cls hn tb l D K b F fu
  | 0 => by
    intro p e R s m args below meth c A cw0 ρ0 ce sl sp mr Q hF hFm hce hsl k hend hstop ρ H locs cw tys ls cst cd pc lo st n env h hcd hle0 hSt hFr hev
    exact absurd (show false = true from hev) Bool.false_ne_true
  | fu + 1 => y_step_ok hA hSh hKs hC hH (y_snd hA hSh hKs hC hH fu)
