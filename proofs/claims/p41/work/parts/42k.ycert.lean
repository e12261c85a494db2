-- RailwayHouseModel.firstTrainOn: 79 steps
theorem ye214 : y_runE y_hn0 (ytb yw214) 100000 yc214 [yk214_0] = true := by decide +kernel
theorem yx214_0 : y_runC y_hn0 (ytb yw214) 100000 yc214 [yk214_0] yk214_0 = true := by decide +kernel
-- RailwayHouseModel.force: 156 steps
theorem ye215 : y_runE y_hn0 (ytb yw215) 100000 yc215 [] = true := by decide +kernel
-- RailwayHouseModel.freeTo: 40 steps
theorem ye216 : y_runE y_hn0 (ytb yw216) 100000 yc216 [] = true := by decide +kernel
-- RailwayHouseModel.freshChannel: 225 steps
theorem ye217 : y_runE y_hn0 (ytb yw217) 100000 yc217 [yk217_0] = true := by decide +kernel
theorem yx217_0 : y_runC y_hn0 (ytb yw217) 100000 yc217 [yk217_0] yk217_0 = true := by decide +kernel
-- RailwayHouseModel.freshChannels: 71 steps
theorem ye218 : y_runE y_hn0 (ytb yw218) 100000 yc218 [yk218_0, yk218_1] = true := by decide +kernel
theorem yx218_0 : y_runC y_hn0 (ytb yw218) 100000 yc218 [yk218_0, yk218_1] yk218_0 = true := by decide +kernel
theorem yx218_1 : y_runC y_hn0 (ytb yw218) 100000 yc218 [yk218_0, yk218_1] yk218_1 = true := by decide +kernel
-- RailwayHouseModel.give: 42 steps
theorem ye219 : y_runE y_hn0 (ytb yw219) 100000 yc219 [] = true := by decide +kernel
-- RailwayHouseModel.goBehind: 240 steps
theorem ye220 : y_runE y_hn0 (ytb yw220) 100000 yc220 [yk220_0, yk220_1] = true := by decide +kernel
theorem yx220_0 : y_runC y_hn0 (ytb yw220) 100000 yc220 [yk220_0, yk220_1] yk220_0 = true := by decide +kernel
theorem yx220_1 : y_runC y_hn0 (ytb yw220) 100000 yc220 [yk220_0, yk220_1] yk220_1 = true := by decide +kernel
-- RailwayHouseModel.goDown: 33 steps
theorem ye221 : y_runE y_hn0 (ytb yw221) 100000 yc221 [yk221_0] = true := by decide +kernel
theorem yx221_0 : y_runC y_hn0 (ytb yw221) 100000 yc221 [yk221_0] yk221_0 = true := by decide +kernel
-- RailwayHouseModel.goFrom: 205 steps
theorem ye222 : y_runE y_hn0 (ytb yw222) 100000 yc222 [yk222_0] = true := by decide +kernel
theorem yx222_0 : y_runC y_hn0 (ytb yw222) 100000 yc222 [yk222_0] yk222_0 = true := by decide +kernel
-- RailwayHouseModel.goOn: 696 steps
theorem ye223 : y_runE (y_hnL yhT) (ytb yw223) 100000 yc223 [] = true := by decide +kernel
-- RailwayHouseModel.goWay: 2797 steps
theorem ye224 : y_runE (y_hnL yhL) (ytb yw224) 100000 yc224 [yk224_0, yk224_1, yk224_2] = true := by decide +kernel
theorem yx224_0 : y_runC (y_hnL yhL) (ytb yw224) 100000 yc224 [yk224_0, yk224_1, yk224_2] yk224_0 = true := by decide +kernel
theorem yx224_1 : y_runC (y_hnL yhL) (ytb yw224) 100000 yc224 [yk224_0, yk224_1, yk224_2] yk224_1 = true := by decide +kernel
theorem yx224_2 : y_runC (y_hnL yhL) (ytb yw224) 100000 yc224 [yk224_0, yk224_1, yk224_2] yk224_2 = true := by decide +kernel
-- RailwayHouseModel.hasSection: 79 steps
theorem ye225 : y_runE y_hn0 (ytb yw225) 100000 yc225 [yk225_0] = true := by decide +kernel
theorem yx225_0 : y_runC y_hn0 (ytb yw225) 100000 yc225 [yk225_0] yk225_0 = true := by decide +kernel
-- RailwayHouseModel.hold: 517 steps
theorem ye226 : y_runE y_hn0 (ytb yw226) 100000 yc226 [yk226_0] = true := by decide +kernel
theorem yx226_0 : y_runC y_hn0 (ytb yw226) 100000 yc226 [yk226_0] yk226_0 = true := by decide +kernel
-- RailwayHouseModel.holdAt: 55 steps
theorem ye227 : y_runE y_hn0 (ytb yw227) 100000 yc227 [] = true := by decide +kernel
-- RailwayHouseModel.holder: 722 steps
theorem ye228 : y_runE y_hn0 (ytb yw228) 100000 yc228 [yk228_0] = true := by decide +kernel
theorem yx228_0 : y_runC y_hn0 (ytb yw228) 100000 yc228 [yk228_0] yk228_0 = true := by decide +kernel
-- RailwayHouseModel.holdsAsSection: 103 steps
theorem ye229 : y_runE y_hn0 (ytb yw229) 100000 yc229 [yk229_0] = true := by decide +kernel
theorem yx229_0 : y_runC y_hn0 (ytb yw229) 100000 yc229 [yk229_0] yk229_0 = true := by decide +kernel
-- RailwayHouseModel.holdsAt: 48 steps
theorem ye230 : y_runE y_hn0 (ytb yw230) 100000 yc230 [] = true := by decide +kernel
-- RailwayHouseModel.holdsOverlap: 41 steps
theorem ye231 : y_runE y_hn0 (ytb yw231) 100000 yc231 [] = true := by decide +kernel
-- RailwayHouseModel.holdsThere: 57 steps
theorem ye232 : y_runE y_hn0 (ytb yw232) 100000 yc232 [yk232_0] = true := by decide +kernel
theorem yx232_0 : y_runC y_hn0 (ytb yw232) 100000 yc232 [yk232_0] yk232_0 = true := by decide +kernel
-- RailwayHouseModel.interpose: 77 steps
theorem ye233 : y_runE y_hn0 (ytb yw233) 100000 yc233 [] = true := by decide +kernel
-- RailwayHouseModel.isBadClear: 215 steps
theorem ye234 : y_runE y_hn0 (ytb yw234) 100000 yc234 [yk234_0] = true := by decide +kernel
theorem yx234_0 : y_runC y_hn0 (ytb yw234) 100000 yc234 [yk234_0] yk234_0 = true := by decide +kernel
-- RailwayHouseModel.isBeaten: 1359 steps
theorem ye235 : y_runE y_hn0 (ytb yw235) 100000 yc235 [yk235_0, yk235_1] = true := by decide +kernel
theorem yx235_0 : y_runC y_hn0 (ytb yw235) 100000 yc235 [yk235_0, yk235_1] yk235_0 = true := by decide +kernel
theorem yx235_1 : y_runC y_hn0 (ytb yw235) 100000 yc235 [yk235_0, yk235_1] yk235_1 = true := by decide +kernel
-- RailwayHouseModel.isBound: 287 steps
theorem ye236 : y_runE y_hn0 (ytb yw236) 100000 yc236 [yk236_0, yk236_1] = true := by decide +kernel
theorem yx236_0 : y_runC y_hn0 (ytb yw236) 100000 yc236 [yk236_0, yk236_1] yk236_0 = true := by decide +kernel
theorem yx236_1 : y_runC y_hn0 (ytb yw236) 100000 yc236 [yk236_0, yk236_1] yk236_1 = true := by decide +kernel
-- RailwayHouseModel.isHeld: 245 steps
theorem ye237 : y_runE y_hn0 (ytb yw237) 100000 yc237 [yk237_0] = true := by decide +kernel
theorem yx237_0 : y_runC y_hn0 (ytb yw237) 100000 yc237 [yk237_0] yk237_0 = true := by decide +kernel
-- RailwayHouseModel.isHeldAgainst: 137 steps
theorem ye238 : y_runE y_hn0 (ytb yw238) 100000 yc238 [yk238_0] = true := by decide +kernel
theorem yx238_0 : y_runC y_hn0 (ytb yw238) 100000 yc238 [yk238_0] yk238_0 = true := by decide +kernel
-- RailwayHouseModel.isHeldAsSection: 95 steps
theorem ye239 : y_runE y_hn0 (ytb yw239) 100000 yc239 [yk239_0] = true := by decide +kernel
theorem yx239_0 : y_runC y_hn0 (ytb yw239) 100000 yc239 [yk239_0] yk239_0 = true := by decide +kernel
-- RailwayHouseModel.isInWay: 67 steps
theorem ye240 : y_runE y_hn0 (ytb yw240) 100000 yc240 [yk240_0] = true := by decide +kernel
theorem yx240_0 : y_runC y_hn0 (ytb yw240) 100000 yc240 [yk240_0] yk240_0 = true := by decide +kernel
-- RailwayHouseModel.isOn: 125 steps
theorem ye241 : y_runE (y_hnL yh0) (ytb yw241) 100000 yc241 [yk241_0, yk241_1] = true := by decide +kernel
theorem yx241_0 : y_runC (y_hnL yh0) (ytb yw241) 100000 yc241 [yk241_0, yk241_1] yk241_0 = true := by decide +kernel
theorem yx241_1 : y_runC (y_hnL yh0) (ytb yw241) 100000 yc241 [yk241_0, yk241_1] yk241_1 = true := by decide +kernel
-- RailwayHouseModel.isSafe: 169 steps
theorem ye242 : y_runE (y_hnL yhT) (ytb yw242) 100000 yc242 [yk242_0] = true := by decide +kernel
theorem yx242_0 : y_runC (y_hnL yhT) (ytb yw242) 100000 yc242 [yk242_0] yk242_0 = true := by decide +kernel
-- RailwayHouseModel.isTaken: 155 steps
theorem ye243 : y_runE y_hn0 (ytb yw243) 100000 yc243 [yk243_0] = true := by decide +kernel
theorem yx243_0 : y_runC y_hn0 (ytb yw243) 100000 yc243 [yk243_0] yk243_0 = true := by decide +kernel
-- RailwayHouseModel.isWithin: 75 steps
theorem ye244 : y_runE y_hn0 (ytb yw244) 100000 yc244 [] = true := by decide +kernel
-- RailwayHouseModel.journey: 491 steps
theorem ye245 : y_runE y_hn0 (ytb yw245) 100000 yc245 [yk245_0, yk245_1, yk245_2, yk245_3, yk245_4, yk245_5, yk245_6, yk245_7, yk245_8] = true := by decide +kernel
theorem yx245_0 : y_runC y_hn0 (ytb yw245) 100000 yc245 [yk245_0, yk245_1, yk245_2, yk245_3, yk245_4, yk245_5, yk245_6, yk245_7, yk245_8] yk245_0 = true := by decide +kernel
theorem yx245_1 : y_runC y_hn0 (ytb yw245) 100000 yc245 [yk245_0, yk245_1, yk245_2, yk245_3, yk245_4, yk245_5, yk245_6, yk245_7, yk245_8] yk245_1 = true := by decide +kernel
theorem yx245_2 : y_runC y_hn0 (ytb yw245) 100000 yc245 [yk245_0, yk245_1, yk245_2, yk245_3, yk245_4, yk245_5, yk245_6, yk245_7, yk245_8] yk245_2 = true := by decide +kernel
theorem yx245_3 : y_runC y_hn0 (ytb yw245) 100000 yc245 [yk245_0, yk245_1, yk245_2, yk245_3, yk245_4, yk245_5, yk245_6, yk245_7, yk245_8] yk245_3 = true := by decide +kernel
theorem yx245_4 : y_runC y_hn0 (ytb yw245) 100000 yc245 [yk245_0, yk245_1, yk245_2, yk245_3, yk245_4, yk245_5, yk245_6, yk245_7, yk245_8] yk245_4 = true := by decide +kernel
theorem yx245_5 : y_runC y_hn0 (ytb yw245) 100000 yc245 [yk245_0, yk245_1, yk245_2, yk245_3, yk245_4, yk245_5, yk245_6, yk245_7, yk245_8] yk245_5 = true := by decide +kernel
theorem yx245_6 : y_runC y_hn0 (ytb yw245) 100000 yc245 [yk245_0, yk245_1, yk245_2, yk245_3, yk245_4, yk245_5, yk245_6, yk245_7, yk245_8] yk245_6 = true := by decide +kernel
theorem yx245_7 : y_runC y_hn0 (ytb yw245) 100000 yc245 [yk245_0, yk245_1, yk245_2, yk245_3, yk245_4, yk245_5, yk245_6, yk245_7, yk245_8] yk245_7 = true := by decide +kernel
theorem yx245_8 : y_runC y_hn0 (ytb yw245) 100000 yc245 [yk245_0, yk245_1, yk245_2, yk245_3, yk245_4, yk245_5, yk245_6, yk245_7, yk245_8] yk245_8 = true := by decide +kernel
-- RailwayHouseModel.leave: 64 steps
theorem ye246 : y_runE (y_hnL yhT) (ytb yw246) 100000 yc246 [] = true := by decide +kernel
-- RailwayHouseModel.leaveOf: 902 steps
theorem ye247 : y_runE (y_hnL yhT) (ytb yw247) 100000 yc247 [yk247_0] = true := by decide +kernel
theorem yx247_0 : y_runC (y_hnL yhT) (ytb yw247) 100000 yc247 [yk247_0] yk247_0 = true := by decide +kernel
-- RailwayHouseModel.leg: 120 steps
theorem ye248 : y_runE y_hn0 (ytb yw248) 100000 yc248 [] = true := by decide +kernel
-- RailwayHouseModel.lie: 74 steps
theorem ye249 : y_runE y_hn0 (ytb yw249) 100000 yc249 [] = true := by decide +kernel
-- RailwayHouseModel.liesNow: 83 steps
theorem ye250 : y_runE y_hn0 (ytb yw250) 100000 yc250 [yk250_0] = true := by decide +kernel
theorem yx250_0 : y_runC y_hn0 (ytb yw250) 100000 yc250 [yk250_0] yk250_0 = true := by decide +kernel
-- RailwayHouseModel.limitAhead: 1164 steps
theorem ye251 : y_runE (y_hnL yhT) (ytb yw251) 100000 yc251 [yk251_0] = true := by decide +kernel
theorem yx251_0 : y_runC (y_hnL yhT) (ytb yw251) 100000 yc251 [yk251_0] yk251_0 = true := by decide +kernel
