theorem lw_0 : y_ev y_hn0 (ytbL ywLz) 5000 (lwSp lwP0) yrLw (y_from (y_cd yrLw) 27) 27 lwL [] 1 lwE ([], [], [], []) lwNo = true := by decide +kernel
theorem lw_248 : y_ev y_hn0 (ytbL ywLz) 5000 (lwSp [lwEnd]) yrLw (y_ufl (y_from (y_cd yrLw) 248)) 248 lwL [] 1 lwE ([], [], [], []) lwNo = true := by decide +kernel
theorem lw_311 : y_ev y_hn0 (ytbL ywLz) 5000 (lwSp [lwEnd]) yrLw (y_ufl (y_from (y_cd yrLw) 311)) 311 lwL [] 1 lwE ([], [], [], []) lwNo = true := by decide +kernel
theorem lw_334 : y_ev y_hn0 (ytbL ywLz) 5000 (lwSp [lwEnd]) yrLw (y_ufl (y_from (y_cd yrLw) 334)) 334 lwL [] 1 lwE ([], [], [], []) lwNo = true := by decide +kernel
theorem lw_347 : y_ev y_hn0 (ytbL ywLz) 5000 (lwSp [lwEnd]) yrLw (y_ufl (y_from (y_cd yrLw) 347)) 347 lwL [] 1 lwE ([], [], [], []) lwNo = true := by decide +kernel
theorem lw_360 : y_ev y_hn0 (ytbL ywLz) 5000 (lwSp [lwEnd]) yrLw (y_ufl (y_from (y_cd yrLw) 360)) 360 lwL [] 1 lwE ([], [], [], []) lwNo = true := by decide +kernel
theorem lw_393 : y_ev y_hn0 (ytbL ywLz) 5000 (lwSp [lwEnd]) yrLw (y_ufl (y_from (y_cd yrLw) 393)) 393 lwL [] 1 lwE ([], [], [], []) lwNo = true := by decide +kernel
theorem lw_426 : y_ev y_hn0 (ytbL ywLz) 5000 (lwSp [lwEnd]) yrLw (y_ufl (y_from (y_cd yrLw) 426)) 426 lwL [] 1 lwE ([], [], [], []) lwNo = true := by decide +kernel
theorem lw_459 : y_ev y_hn0 (ytbL ywLz) 5000 (lwSp [lwEnd]) yrLw (y_ufl (y_from (y_cd yrLw) 459)) 459 lwL [] 1 lwE ([], [], [], []) lwNo = true := by decide +kernel
theorem lw_492 : y_ev y_hn0 (ytbL ywLz) 5000 (lwSp [lwEnd]) yrLw (y_ufl (y_from (y_cd yrLw) 492)) 492 lwL [] 1 lwE ([], [], [], []) lwNo = true := by decide +kernel
theorem lw_525 : y_ev y_hn0 (ytbL ywLz) 5000 (lwSp [lwEnd]) yrLw (y_ufl (y_from (y_cd yrLw) 525)) 525 lwL [] 1 lwE ([], [], [], []) lwNo = true := by decide +kernel
theorem lw_558 : y_ev y_hn0 (ytbL ywLz) 5000 (lwSp [lwEnd]) yrLw (y_ufl (y_from (y_cd yrLw) 558)) 558 lwL [] 1 lwE ([], [], [], []) lwNo = true := by decide +kernel
theorem lw_581 : y_ev y_hn0 (ytbL ywLz) 5000 (lwSp [lwEnd]) yrLw (y_ufl (y_from (y_cd yrLw) 581)) 581 lwL [] 1 lwE ([], [], [], []) lwNo = true := by decide +kernel
theorem lw_604 : y_ev y_hn0 (ytbL ywLz) 5000 (lwSp [lwEnd]) yrLw (y_ufl (y_from (y_cd yrLw) 604)) 604 lwL [] 1 lwE ([], [], [], []) lwNo = true := by decide +kernel
theorem lw_627 : y_ev y_hn0 (ytbL ywLz) 5000 (lwSp [lwEnd]) yrLw (y_ufl (y_from (y_cd yrLw) 627)) 627 lwL [] 1 lwE ([], [], [], []) lwNo = true := by decide +kernel
theorem lw_660 : y_ev y_hn0 (ytbL ywLz) 5000 (lwSp [lwEnd]) yrLw (y_ufl (y_from (y_cd yrLw) 660)) 660 lwL [] 1 lwE ([], [], [], []) lwNo = true := by decide +kernel
theorem lw_703 : y_ev y_hn0 (ytbL ywLz) 5000 (lwSp [lwEnd]) yrLw (y_ufl (y_from (y_cd yrLw) 703)) 703 lwL [] 1 lwE ([], [], [], []) lwNo = true := by decide +kernel
theorem lw_726 : y_ev y_hn0 (ytbL ywLz) 5000 (lwSp [lwEnd]) yrLw (y_ufl (y_from (y_cd yrLw) 726)) 726 lwL [] 1 lwE ([], [], [], []) lwNo = true := by decide +kernel
theorem lw_769 : y_ev y_hn0 (ytbL ywLz) 5000 (lwSp [lwEnd]) yrLw (y_ufl (y_from (y_cd yrLw) 769)) 769 lwL [] 1 lwE ([], [], [], []) lwNo = true := by decide +kernel
theorem lw_802 : y_ev y_hn0 (ytbL ywLz) 5000 (lwSp [lwEnd]) yrLw (y_ufl (y_from (y_cd yrLw) 802)) 802 lwL [] 1 lwE ([], [], [], []) lwNo = true := by decide +kernel
theorem lw_835 : y_ev y_hn0 (ytbL ywLz) 5000 (lwSp [lwEnd]) yrLw (y_ufl (y_from (y_cd yrLw) 835)) 835 lwL [] 1 lwE ([], [], [], []) lwNo = true := by decide +kernel
theorem lw_868 : y_ev y_hn0 (ytbL ywLz) 5000 (lwSp [lwEnd]) yrLw (y_ufl (y_from (y_cd yrLw) 868)) 868 lwL [] 1 lwE ([], [], [], []) lwNo = true := by decide +kernel
theorem lw_881 : y_ev y_hn0 (ytbL ywLz) 5000 (lwSp [lwEnd]) yrLw (y_ufl (y_from (y_cd yrLw) 881)) 881 lwL [] 1 lwE ([], [], [], []) lwNo = true := by decide +kernel
theorem lw_904 : y_ev y_hn0 (ytbL ywLz) 5000 (lwSp [lwEnd]) yrLw (y_ufl (y_from (y_cd yrLw) 904)) 904 lwL [] 1 lwE ([], [], [], []) lwNo = true := by decide +kernel
theorem lw_1016 : y_ev y_hn0 (ytbL ywLz) 5000 (lwSp [lwEnd]) yrLw (y_ufl (y_from (y_cd yrLw) 1016)) 1016 lwL [] 1 lwE ([], [], [], []) lwNo = true := by decide +kernel
theorem lw_1065 : y_ev y_hn0 (ytbL ywLz) 5000 (lwSp [lwEnd]) yrLw (y_ufl (y_from (y_cd yrLw) 1065)) 1065 lwL [] 1 lwE ([], [], [], []) lwNo = true := by decide +kernel
theorem lw_1098 : y_ev y_hn0 (ytbL ywLz) 5000 (lwSp [lwEnd]) yrLw (y_ufl (y_from (y_cd yrLw) 1098)) 1098 lwL [] 1 lwE ([], [], [], []) lwNo = true := by decide +kernel
theorem lw_1121 : y_ev y_hn0 (ytbL ywLz) 5000 (lwSp [lwEnd]) yrLw (y_ufl (y_from (y_cd yrLw) 1121)) 1121 lwL [] 1 lwE ([], [], [], []) lwNo = true := by decide +kernel
theorem lw_1144 : y_ev y_hn0 (ytbL ywLz) 5000 (lwSp [lwEnd]) yrLw (y_ufl (y_from (y_cd yrLw) 1144)) 1144 lwL [] 1 lwE ([], [], [], []) lwNo = true := by decide +kernel
theorem lw_1167 : y_ev y_hn0 (ytbL ywLz) 5000 (lwSp [lwEnd]) yrLw (y_ufl (y_from (y_cd yrLw) 1167)) 1167 lwL [] 1 lwE ([], [], [], []) lwNo = true := by decide +kernel
theorem lw_1200 : y_ev y_hn0 (ytbL ywLz) 5000 (lwSp [lwEnd]) yrLw (y_ufl (y_from (y_cd yrLw) 1200)) 1200 lwL [] 1 lwE ([], [], [], []) lwNo = true := by decide +kernel
theorem lw_1213 : y_ev y_hn0 (ytbL ywLz) 5000 (lwSp [lwEnd]) yrLw (y_ufl (y_from (y_cd yrLw) 1213)) 1213 lwL [] 1 lwE ([], [], [], []) lwNo = true := by decide +kernel
theorem lw_1226 : y_ev y_hn0 (ytbL ywLz) 5000 (lwSp [lwEnd]) yrLw (y_ufl (y_from (y_cd yrLw) 1226)) 1226 lwL [] 1 lwE ([], [], [], []) lwNo = true := by decide +kernel
theorem lw_1239 : y_ev y_hn0 (ytbL ywLz) 5000 (lwSp [lwEnd]) yrLw (y_ufl (y_from (y_cd yrLw) 1239)) 1239 lwL [] 1 lwE ([], [], [], []) lwNo = true := by decide +kernel
theorem lw_1447 : y_ev y_hn0 (ytbL ywLz) 5000 (lwSp [lwEnd]) yrLw (y_ufl (y_from (y_cd yrLw) 1447)) 1447 lwL [] 1 lwE ([], [], [], []) lwNo = true := by decide +kernel
theorem lw_1490 : y_ev y_hn0 (ytbL ywLz) 5000 (lwSp [lwEnd]) yrLw (y_ufl (y_from (y_cd yrLw) 1490)) 1490 lwL [] 1 lwE ([], [], [], []) lwNo = true := by decide +kernel
theorem lw_1543 : y_ev y_hn0 (ytbL ywLz) 5000 (lwSp [lwEnd]) yrLw (y_ufl (y_from (y_cd yrLw) 1543)) 1543 lwL [] 1 lwE ([], [], [], []) lwNo = true := by decide +kernel
theorem lw_1566 : y_ev y_hn0 (ytbL ywLz) 5000 (lwSp [lwEnd]) yrLw (y_ufl (y_from (y_cd yrLw) 1566)) 1566 lwL [] 1 lwE ([], [], [], []) lwNo = true := by decide +kernel
theorem lw_1589 : y_ev y_hn0 (ytbL ywLz) 5000 (lwSp [lwEnd]) yrLw (y_ufl (y_from (y_cd yrLw) 1589)) 1589 lwL [] 1 lwE ([], [], [], []) lwNo = true := by decide +kernel
theorem lw_1622 : y_ev y_hn0 (ytbL ywLz) 5000 (lwSp [lwEnd]) yrLw (y_ufl (y_from (y_cd yrLw) 1622)) 1622 lwL [] 1 lwE ([], [], [], []) lwNo = true := by decide +kernel
theorem lw_1685 : y_ev y_hn0 (ytbL ywLz) 5000 (lwSp [lwEnd]) yrLw (y_ufl (y_from (y_cd yrLw) 1685)) 1685 lwL [] 1 lwE ([], [], [], []) lwNo = true := by decide +kernel
theorem lw_1698 : y_ev y_hn0 (ytbL ywLz) 5000 (lwSp [lwEnd]) yrLw (y_ufl (y_from (y_cd yrLw) 1698)) 1698 lwL [] 1 lwE ([], [], [], []) lwNo = true := by decide +kernel
theorem lw_1711 : y_ev y_hn0 (ytbL ywLz) 5000 (lwSp [lwEnd]) yrLw (y_ufl (y_from (y_cd yrLw) 1711)) 1711 lwL [] 1 lwE ([], [], [], []) lwNo = true := by decide +kernel
theorem lw_1744 : y_ev y_hn0 (ytbL ywLz) 5000 (lwSp [lwEnd]) yrLw (y_ufl (y_from (y_cd yrLw) 1744)) 1744 lwL [] 1 lwE ([], [], [], []) lwNo = true := by decide +kernel
theorem lw_983 : y_ev y_hn0 (ytbL ywLz) 5000 (lwSp [lwEnd]) yrLw (y_ufl (y_from (y_cd yrLw) 983)) 983 lwL [] 1 lwE ([], [], [], []) lwNo = true := by decide +kernel
theorem lw_clr : y_ev y_hn0 (ytbL ywLc) 5000 (lwSz [lwEnd]) yrLw (y_ufl (y_from (y_cd yrLw) lwClr)) lwClr lwL [] 2 ((1, lwZD) :: lwE) ([], [(0, lwZc, lwZf, y_sy 1), (0, 114, lwZm, y_sy 1)], [], []) lwNo = true := by decide +kernel
theorem lw_OA : y_ev y_hn0 (ytbL ywLs) 5000 lwS_option yrLw (y_from (y_cd yrLw) 1425) 1425 lwL [y_sy 2, y_sy 1, y_ob 0 0] 5 lwOEA ([], lwFO, [], []) lwNo = true := by decide +kernel
theorem lw_OB : y_ev y_hn0 (ytbL ywLs) 5000 lwS_option yrLw (y_from (y_cd yrLw) 1425) 1425 lwL [y_sy 2, y_sy 1, y_ob 0 0] 11 lwOEB (lwRO, lwFO, lwXO, []) lwNo = true := by decide +kernel
theorem lw_OC : y_ev y_hn0 (ytbL ywLs) 5000 lwS_option yrLw (y_from (y_cd yrLw) 1425) 1425 lwL [y_sy 2, y_sy 1, y_ob 0 0] 8 lwOEC (lwRO, lwFO, [], []) lwNo = true := by decide +kernel
theorem lw_S_station : y_ev y_hn0 (ytbL ywLs) 5000 lwS_station yrLw (y_from (y_cd yrLw) 1268) 1268 lwL [y_sy 3, y_sy 2, y_sy 1, y_ob 0 0] 5 ((4, lwZD) :: ([(3, y_top), (2, y_top), (1, y_top)] ++ lwE)) ([], [(0, lwZc, lwZf, y_sy 4), (0, 114, lwZm, y_sy 4)], [], []) lwNo = true := by decide +kernel
theorem lw_S_run : y_ev y_hn0 (ytbL ywLs) 5000 lwS_run yrLw (y_from (y_cd yrLw) 1301) 1301 lwL [y_sy 1, y_ob 0 0] 3 ((2, lwZD) :: ([(1, y_top)] ++ lwE)) ([], [(0, lwZc, lwZf, y_sy 2), (0, 114, lwZm, y_sy 2)], [], []) lwNo = true := by decide +kernel
theorem lw_SA : y_ev y_hn0 (ytbL ywLs) 5000 lwS_stopAt yrLw (y_from (y_cd yrLw) 1339) 1339 lwL [y_sy 4, y_sy 3, y_sy 2, y_sy 1, y_ob 0 0] 6 lwEA ([], lwFX, [], []) lwNo = true := by decide +kernel
theorem lw_SBn : y_ev y_hn0 (ytbL ywLs) 5000 lwS_stopAt yrLw (y_from (y_cd yrLw) 1339) 1339 lwL [y_sy 4, y_sy 3, y_sy 2, y_sy 1, y_ob 0 0] 12 (lwEK lwDn lwV0) (lwRK, lwFX, lwXK, []) lwNo = true := by decide +kernel
theorem lw_SCn : y_ev y_hn0 (ytbL ywLs) 5000 lwS_stopAt yrLw (y_from (y_cd yrLw) 1339) 1339 lwL [y_sy 4, y_sy 3, y_sy 2, y_sy 1, y_ob 0 0] 16 (lwEL lwDn lwV1) (lwRL (y_sy 6), lwFX, lwXL, []) lwNo = true := by decide +kernel
theorem lw_SDn : y_ev y_hn0 (ytbL ywLs) 5000 lwS_stopAt yrLw (y_from (y_cd yrLw) 1339) 1339 lwL [y_sy 4, y_sy 3, y_sy 2, y_sy 1, y_ob 0 0] 16 (lwEL lwDn lwV8) (lwRL (.inl 8), lwFX, lwXL, []) lwNo = true := by decide +kernel
theorem lw_SBp : y_ev y_hn0 (ytbL ywLs) 5000 lwS_stopAt yrLw (y_from (y_cd yrLw) 1339) 1339 lwL [y_sy 4, y_sy 3, y_sy 2, y_sy 1, y_ob 0 0] 12 (lwEK lwDp lwV0) (lwRK, lwFX, lwXK, []) lwNo = true := by decide +kernel
theorem lw_SCp : y_ev y_hn0 (ytbL ywLs) 5000 lwS_stopAt yrLw (y_from (y_cd yrLw) 1339) 1339 lwL [y_sy 4, y_sy 3, y_sy 2, y_sy 1, y_ob 0 0] 16 (lwEL lwDp lwV1) (lwRL (y_sy 6), lwFX, lwXL, []) lwNo = true := by decide +kernel
theorem lw_SDp : y_ev y_hn0 (ytbL ywLs) 5000 lwS_stopAt yrLw (y_from (y_cd yrLw) 1339) 1339 lwL [y_sy 4, y_sy 3, y_sy 2, y_sy 1, y_ob 0 0] 16 (lwEL lwDp lwV8) (lwRL (.inl 8), lwFX, lwXL, []) lwNo = true := by decide +kernel
theorem lw_all : ∀ p ∈ lwP1, y_ev y_hn0 (ytbL ywLz) 5000 (lwSp [lwEnd]) yrLw (y_ufl (y_from (y_cd yrLw) p)) p lwL [] 1 lwE ([], [], [], []) lwNo = true := y_forall lw_248 <| y_forall lw_311 <| y_forall lw_334 <| y_forall lw_347 <| y_forall lw_360 <| y_forall lw_393 <| y_forall lw_426 <| y_forall lw_459 <| y_forall lw_492 <| y_forall lw_525 <| y_forall lw_558 <| y_forall lw_581 <| y_forall lw_604 <| y_forall lw_627 <| y_forall lw_660 <| y_forall lw_703 <| y_forall lw_726 <| y_forall lw_769 <| y_forall lw_802 <| y_forall lw_835 <| y_forall lw_868 <| y_forall lw_881 <| y_forall lw_904 <| y_forall lw_1016 <| y_forall lw_1065 <| y_forall lw_1098 <| y_forall lw_1121 <| y_forall lw_1144 <| y_forall lw_1167 <| y_forall lw_1200 <| y_forall lw_1213 <| y_forall lw_1226 <| y_forall lw_1239 <| y_forall lw_1447 <| y_forall lw_1490 <| y_forall lw_1543 <| y_forall lw_1566 <| y_forall lw_1589 <| y_forall lw_1622 <| y_forall lw_1685 <| y_forall lw_1698 <| y_forall lw_1711 <| y_forall lw_1744 <| y_forall lw_983 <| y_fornil
