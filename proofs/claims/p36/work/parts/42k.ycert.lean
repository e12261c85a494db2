-- RailwayHouseModel.firstTrainOn: 79 steps
theorem ye215 : y_runE y_hn0 (ytb yw215) 100000 yc215 [yk215_0] = true := by decide +kernel
theorem yx215_0 : y_runC y_hn0 (ytb yw215) 100000 yc215 [yk215_0] yk215_0 = true := by decide +kernel
-- RailwayHouseModel.force: 156 steps
theorem ye216 : y_runE y_hn0 (ytb yw216) 100000 yc216 [] = true := by decide +kernel
-- RailwayHouseModel.freeTo: 40 steps
theorem ye217 : y_runE y_hn0 (ytb yw217) 100000 yc217 [] = true := by decide +kernel
-- RailwayHouseModel.freshChannel: 225 steps
theorem ye218 : y_runE y_hn0 (ytb yw218) 100000 yc218 [yk218_0] = true := by decide +kernel
theorem yx218_0 : y_runC y_hn0 (ytb yw218) 100000 yc218 [yk218_0] yk218_0 = true := by decide +kernel
-- RailwayHouseModel.freshChannels: 71 steps
theorem ye219 : y_runE y_hn0 (ytb yw219) 100000 yc219 [yk219_0, yk219_1] = true := by decide +kernel
theorem yx219_0 : y_runC y_hn0 (ytb yw219) 100000 yc219 [yk219_0, yk219_1] yk219_0 = true := by decide +kernel
theorem yx219_1 : y_runC y_hn0 (ytb yw219) 100000 yc219 [yk219_0, yk219_1] yk219_1 = true := by decide +kernel
-- RailwayHouseModel.give: 42 steps
theorem ye220 : y_runE y_hn0 (ytb yw220) 100000 yc220 [] = true := by decide +kernel
-- RailwayHouseModel.goBehind: 240 steps
theorem ye221 : y_runE y_hn0 (ytb yw221) 100000 yc221 [yk221_0, yk221_1] = true := by decide +kernel
theorem yx221_0 : y_runC y_hn0 (ytb yw221) 100000 yc221 [yk221_0, yk221_1] yk221_0 = true := by decide +kernel
theorem yx221_1 : y_runC y_hn0 (ytb yw221) 100000 yc221 [yk221_0, yk221_1] yk221_1 = true := by decide +kernel
-- RailwayHouseModel.goDown: 33 steps
theorem ye222 : y_runE y_hn0 (ytb yw222) 100000 yc222 [yk222_0] = true := by decide +kernel
theorem yx222_0 : y_runC y_hn0 (ytb yw222) 100000 yc222 [yk222_0] yk222_0 = true := by decide +kernel
-- RailwayHouseModel.goFrom: 205 steps
theorem ye223 : y_runE y_hn0 (ytb yw223) 100000 yc223 [yk223_0] = true := by decide +kernel
theorem yx223_0 : y_runC y_hn0 (ytb yw223) 100000 yc223 [yk223_0] yk223_0 = true := by decide +kernel
-- RailwayHouseModel.goOn: 696 steps
theorem ye224 : y_runE (y_hnL yhT) (ytb yw224) 100000 yc224 [] = true := by decide +kernel
-- RailwayHouseModel.goWay: 2797 steps
theorem ye225 : y_runE (y_hnL yhL) (ytb yw225) 100000 yc225 [yk225_0, yk225_1, yk225_2] = true := by decide +kernel
theorem yx225_0 : y_runC (y_hnL yhL) (ytb yw225) 100000 yc225 [yk225_0, yk225_1, yk225_2] yk225_0 = true := by decide +kernel
theorem yx225_1 : y_runC (y_hnL yhL) (ytb yw225) 100000 yc225 [yk225_0, yk225_1, yk225_2] yk225_1 = true := by decide +kernel
theorem yx225_2 : y_runC (y_hnL yhL) (ytb yw225) 100000 yc225 [yk225_0, yk225_1, yk225_2] yk225_2 = true := by decide +kernel
-- RailwayHouseModel.hasSection: 79 steps
theorem ye226 : y_runE y_hn0 (ytb yw226) 100000 yc226 [yk226_0] = true := by decide +kernel
theorem yx226_0 : y_runC y_hn0 (ytb yw226) 100000 yc226 [yk226_0] yk226_0 = true := by decide +kernel
-- RailwayHouseModel.hold: 517 steps
theorem ye227 : y_runE y_hn0 (ytb yw227) 100000 yc227 [yk227_0] = true := by decide +kernel
theorem yx227_0 : y_runC y_hn0 (ytb yw227) 100000 yc227 [yk227_0] yk227_0 = true := by decide +kernel
-- RailwayHouseModel.holdAt: 55 steps
theorem ye228 : y_runE y_hn0 (ytb yw228) 100000 yc228 [] = true := by decide +kernel
-- RailwayHouseModel.holder: 722 steps
theorem ye229 : y_runE y_hn0 (ytb yw229) 100000 yc229 [yk229_0] = true := by decide +kernel
theorem yx229_0 : y_runC y_hn0 (ytb yw229) 100000 yc229 [yk229_0] yk229_0 = true := by decide +kernel
-- RailwayHouseModel.holdsAsSection: 103 steps
theorem ye230 : y_runE y_hn0 (ytb yw230) 100000 yc230 [yk230_0] = true := by decide +kernel
theorem yx230_0 : y_runC y_hn0 (ytb yw230) 100000 yc230 [yk230_0] yk230_0 = true := by decide +kernel
-- RailwayHouseModel.holdsAt: 48 steps
theorem ye231 : y_runE y_hn0 (ytb yw231) 100000 yc231 [] = true := by decide +kernel
-- RailwayHouseModel.holdsOverlap: 41 steps
theorem ye232 : y_runE y_hn0 (ytb yw232) 100000 yc232 [] = true := by decide +kernel
-- RailwayHouseModel.holdsThere: 57 steps
theorem ye233 : y_runE y_hn0 (ytb yw233) 100000 yc233 [yk233_0] = true := by decide +kernel
theorem yx233_0 : y_runC y_hn0 (ytb yw233) 100000 yc233 [yk233_0] yk233_0 = true := by decide +kernel
-- RailwayHouseModel.interpose: 77 steps
theorem ye234 : y_runE y_hn0 (ytb yw234) 100000 yc234 [] = true := by decide +kernel
-- RailwayHouseModel.isBadClear: 215 steps
theorem ye235 : y_runE y_hn0 (ytb yw235) 100000 yc235 [yk235_0] = true := by decide +kernel
theorem yx235_0 : y_runC y_hn0 (ytb yw235) 100000 yc235 [yk235_0] yk235_0 = true := by decide +kernel
-- RailwayHouseModel.isBeaten: 1359 steps
theorem ye236 : y_runE y_hn0 (ytb yw236) 100000 yc236 [yk236_0, yk236_1] = true := by decide +kernel
theorem yx236_0 : y_runC y_hn0 (ytb yw236) 100000 yc236 [yk236_0, yk236_1] yk236_0 = true := by decide +kernel
theorem yx236_1 : y_runC y_hn0 (ytb yw236) 100000 yc236 [yk236_0, yk236_1] yk236_1 = true := by decide +kernel
-- RailwayHouseModel.isBound: 287 steps
theorem ye237 : y_runE y_hn0 (ytb yw237) 100000 yc237 [yk237_0, yk237_1] = true := by decide +kernel
theorem yx237_0 : y_runC y_hn0 (ytb yw237) 100000 yc237 [yk237_0, yk237_1] yk237_0 = true := by decide +kernel
theorem yx237_1 : y_runC y_hn0 (ytb yw237) 100000 yc237 [yk237_0, yk237_1] yk237_1 = true := by decide +kernel
-- RailwayHouseModel.isHeld: 245 steps
theorem ye238 : y_runE y_hn0 (ytb yw238) 100000 yc238 [yk238_0] = true := by decide +kernel
theorem yx238_0 : y_runC y_hn0 (ytb yw238) 100000 yc238 [yk238_0] yk238_0 = true := by decide +kernel
-- RailwayHouseModel.isHeldAgainst: 137 steps
theorem ye239 : y_runE y_hn0 (ytb yw239) 100000 yc239 [yk239_0] = true := by decide +kernel
theorem yx239_0 : y_runC y_hn0 (ytb yw239) 100000 yc239 [yk239_0] yk239_0 = true := by decide +kernel
-- RailwayHouseModel.isHeldAsSection: 95 steps
theorem ye240 : y_runE y_hn0 (ytb yw240) 100000 yc240 [yk240_0] = true := by decide +kernel
theorem yx240_0 : y_runC y_hn0 (ytb yw240) 100000 yc240 [yk240_0] yk240_0 = true := by decide +kernel
-- RailwayHouseModel.isInWay: 67 steps
theorem ye241 : y_runE y_hn0 (ytb yw241) 100000 yc241 [yk241_0] = true := by decide +kernel
theorem yx241_0 : y_runC y_hn0 (ytb yw241) 100000 yc241 [yk241_0] yk241_0 = true := by decide +kernel
-- RailwayHouseModel.isOn: 125 steps
theorem ye242 : y_runE (y_hnL yh0) (ytb yw242) 100000 yc242 [yk242_0, yk242_1] = true := by decide +kernel
theorem yx242_0 : y_runC (y_hnL yh0) (ytb yw242) 100000 yc242 [yk242_0, yk242_1] yk242_0 = true := by decide +kernel
theorem yx242_1 : y_runC (y_hnL yh0) (ytb yw242) 100000 yc242 [yk242_0, yk242_1] yk242_1 = true := by decide +kernel
-- RailwayHouseModel.isSafe: 169 steps
theorem ye243 : y_runE (y_hnL yhT) (ytb yw243) 100000 yc243 [yk243_0] = true := by decide +kernel
theorem yx243_0 : y_runC (y_hnL yhT) (ytb yw243) 100000 yc243 [yk243_0] yk243_0 = true := by decide +kernel
-- RailwayHouseModel.isTaken: 155 steps
theorem ye244 : y_runE y_hn0 (ytb yw244) 100000 yc244 [yk244_0] = true := by decide +kernel
theorem yx244_0 : y_runC y_hn0 (ytb yw244) 100000 yc244 [yk244_0] yk244_0 = true := by decide +kernel
-- RailwayHouseModel.isWithin: 75 steps
theorem ye245 : y_runE y_hn0 (ytb yw245) 100000 yc245 [] = true := by decide +kernel
-- RailwayHouseModel.journey: 491 steps
theorem ye246 : y_runE y_hn0 (ytb yw246) 100000 yc246 [yk246_0, yk246_1, yk246_2, yk246_3, yk246_4, yk246_5, yk246_6, yk246_7, yk246_8] = true := by decide +kernel
theorem yx246_0 : y_runC y_hn0 (ytb yw246) 100000 yc246 [yk246_0, yk246_1, yk246_2, yk246_3, yk246_4, yk246_5, yk246_6, yk246_7, yk246_8] yk246_0 = true := by decide +kernel
theorem yx246_1 : y_runC y_hn0 (ytb yw246) 100000 yc246 [yk246_0, yk246_1, yk246_2, yk246_3, yk246_4, yk246_5, yk246_6, yk246_7, yk246_8] yk246_1 = true := by decide +kernel
theorem yx246_2 : y_runC y_hn0 (ytb yw246) 100000 yc246 [yk246_0, yk246_1, yk246_2, yk246_3, yk246_4, yk246_5, yk246_6, yk246_7, yk246_8] yk246_2 = true := by decide +kernel
theorem yx246_3 : y_runC y_hn0 (ytb yw246) 100000 yc246 [yk246_0, yk246_1, yk246_2, yk246_3, yk246_4, yk246_5, yk246_6, yk246_7, yk246_8] yk246_3 = true := by decide +kernel
theorem yx246_4 : y_runC y_hn0 (ytb yw246) 100000 yc246 [yk246_0, yk246_1, yk246_2, yk246_3, yk246_4, yk246_5, yk246_6, yk246_7, yk246_8] yk246_4 = true := by decide +kernel
theorem yx246_5 : y_runC y_hn0 (ytb yw246) 100000 yc246 [yk246_0, yk246_1, yk246_2, yk246_3, yk246_4, yk246_5, yk246_6, yk246_7, yk246_8] yk246_5 = true := by decide +kernel
theorem yx246_6 : y_runC y_hn0 (ytb yw246) 100000 yc246 [yk246_0, yk246_1, yk246_2, yk246_3, yk246_4, yk246_5, yk246_6, yk246_7, yk246_8] yk246_6 = true := by decide +kernel
theorem yx246_7 : y_runC y_hn0 (ytb yw246) 100000 yc246 [yk246_0, yk246_1, yk246_2, yk246_3, yk246_4, yk246_5, yk246_6, yk246_7, yk246_8] yk246_7 = true := by decide +kernel
theorem yx246_8 : y_runC y_hn0 (ytb yw246) 100000 yc246 [yk246_0, yk246_1, yk246_2, yk246_3, yk246_4, yk246_5, yk246_6, yk246_7, yk246_8] yk246_8 = true := by decide +kernel
-- RailwayHouseModel.leave: 64 steps
theorem ye247 : y_runE (y_hnL yhT) (ytb yw247) 100000 yc247 [] = true := by decide +kernel
-- RailwayHouseModel.leaveOf: 902 steps
theorem ye248 : y_runE (y_hnL yhT) (ytb yw248) 100000 yc248 [yk248_0] = true := by decide +kernel
theorem yx248_0 : y_runC (y_hnL yhT) (ytb yw248) 100000 yc248 [yk248_0] yk248_0 = true := by decide +kernel
-- RailwayHouseModel.leg: 120 steps
theorem ye249 : y_runE y_hn0 (ytb yw249) 100000 yc249 [] = true := by decide +kernel
-- RailwayHouseModel.lie: 74 steps
theorem ye250 : y_runE y_hn0 (ytb yw250) 100000 yc250 [] = true := by decide +kernel
-- RailwayHouseModel.liesNow: 83 steps
theorem ye251 : y_runE y_hn0 (ytb yw251) 100000 yc251 [yk251_0] = true := by decide +kernel
theorem yx251_0 : y_runC y_hn0 (ytb yw251) 100000 yc251 [yk251_0] yk251_0 = true := by decide +kernel
-- RailwayHouseModel.limitAhead: 1164 steps
theorem ye252 : y_runE (y_hnL yhT) (ytb yw252) 100000 yc252 [yk252_0] = true := by decide +kernel
theorem yx252_0 : y_runC (y_hnL yhT) (ytb yw252) 100000 yc252 [yk252_0] yk252_0 = true := by decide +kernel
