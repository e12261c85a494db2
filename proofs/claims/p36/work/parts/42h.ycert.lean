-- RailwayHouseModel.force: 156 steps
theorem ye197 : y_runE y_hn0 (ytb yw197) 100000 yc197 [] = true := by decide +kernel
-- RailwayHouseModel.freeTo: 40 steps
theorem ye198 : y_runE y_hn0 (ytb yw198) 100000 yc198 [] = true := by decide +kernel
-- RailwayHouseModel.freshChannel: 225 steps
theorem ye199 : y_runE y_hn0 (ytb yw199) 100000 yc199 [yk199_0] = true := by decide +kernel
theorem yx199_0 : y_runC y_hn0 (ytb yw199) 100000 yc199 [yk199_0] yk199_0 = true := by decide +kernel
-- RailwayHouseModel.freshChannels: 71 steps
theorem ye200 : y_runE y_hn0 (ytb yw200) 100000 yc200 [yk200_0, yk200_1] = true := by decide +kernel
theorem yx200_0 : y_runC y_hn0 (ytb yw200) 100000 yc200 [yk200_0, yk200_1] yk200_0 = true := by decide +kernel
theorem yx200_1 : y_runC y_hn0 (ytb yw200) 100000 yc200 [yk200_0, yk200_1] yk200_1 = true := by decide +kernel
-- RailwayHouseModel.give: 42 steps
theorem ye201 : y_runE y_hn0 (ytb yw201) 100000 yc201 [] = true := by decide +kernel
-- RailwayHouseModel.goBehind: 240 steps
theorem ye202 : y_runE y_hn0 (ytb yw202) 100000 yc202 [yk202_0, yk202_1] = true := by decide +kernel
theorem yx202_0 : y_runC y_hn0 (ytb yw202) 100000 yc202 [yk202_0, yk202_1] yk202_0 = true := by decide +kernel
theorem yx202_1 : y_runC y_hn0 (ytb yw202) 100000 yc202 [yk202_0, yk202_1] yk202_1 = true := by decide +kernel
-- RailwayHouseModel.goDown: 33 steps
theorem ye203 : y_runE y_hn0 (ytb yw203) 100000 yc203 [yk203_0] = true := by decide +kernel
theorem yx203_0 : y_runC y_hn0 (ytb yw203) 100000 yc203 [yk203_0] yk203_0 = true := by decide +kernel
-- RailwayHouseModel.goFrom: 205 steps
theorem ye204 : y_runE y_hn0 (ytb yw204) 100000 yc204 [yk204_0] = true := by decide +kernel
theorem yx204_0 : y_runC y_hn0 (ytb yw204) 100000 yc204 [yk204_0] yk204_0 = true := by decide +kernel
-- RailwayHouseModel.hasSection: 79 steps
theorem ye205 : y_runE y_hn0 (ytb yw205) 100000 yc205 [yk205_0] = true := by decide +kernel
theorem yx205_0 : y_runC y_hn0 (ytb yw205) 100000 yc205 [yk205_0] yk205_0 = true := by decide +kernel
-- RailwayHouseModel.hold: 517 steps
theorem ye206 : y_runE y_hn0 (ytb yw206) 100000 yc206 [yk206_0] = true := by decide +kernel
theorem yx206_0 : y_runC y_hn0 (ytb yw206) 100000 yc206 [yk206_0] yk206_0 = true := by decide +kernel
-- RailwayHouseModel.holdAt: 55 steps
theorem ye207 : y_runE y_hn0 (ytb yw207) 100000 yc207 [] = true := by decide +kernel
-- RailwayHouseModel.holder: 722 steps
theorem ye208 : y_runE y_hn0 (ytb yw208) 100000 yc208 [yk208_0] = true := by decide +kernel
theorem yx208_0 : y_runC y_hn0 (ytb yw208) 100000 yc208 [yk208_0] yk208_0 = true := by decide +kernel
-- RailwayHouseModel.holdsAsSection: 103 steps
theorem ye209 : y_runE y_hn0 (ytb yw209) 100000 yc209 [yk209_0] = true := by decide +kernel
theorem yx209_0 : y_runC y_hn0 (ytb yw209) 100000 yc209 [yk209_0] yk209_0 = true := by decide +kernel
-- RailwayHouseModel.holdsAt: 48 steps
theorem ye210 : y_runE y_hn0 (ytb yw210) 100000 yc210 [] = true := by decide +kernel
-- RailwayHouseModel.holdsOverlap: 41 steps
theorem ye211 : y_runE y_hn0 (ytb yw211) 100000 yc211 [] = true := by decide +kernel
-- RailwayHouseModel.holdsThere: 57 steps
theorem ye212 : y_runE y_hn0 (ytb yw212) 100000 yc212 [yk212_0] = true := by decide +kernel
theorem yx212_0 : y_runC y_hn0 (ytb yw212) 100000 yc212 [yk212_0] yk212_0 = true := by decide +kernel
-- RailwayHouseModel.interpose: 77 steps
theorem ye213 : y_runE y_hn0 (ytb yw213) 100000 yc213 [] = true := by decide +kernel
-- RailwayHouseModel.isBadClear: 215 steps
theorem ye214 : y_runE y_hn0 (ytb yw214) 100000 yc214 [yk214_0] = true := by decide +kernel
theorem yx214_0 : y_runC y_hn0 (ytb yw214) 100000 yc214 [yk214_0] yk214_0 = true := by decide +kernel
-- RailwayHouseModel.isBeaten: 1359 steps
theorem ye215 : y_runE y_hn0 (ytb yw215) 100000 yc215 [yk215_0, yk215_1] = true := by decide +kernel
theorem yx215_0 : y_runC y_hn0 (ytb yw215) 100000 yc215 [yk215_0, yk215_1] yk215_0 = true := by decide +kernel
theorem yx215_1 : y_runC y_hn0 (ytb yw215) 100000 yc215 [yk215_0, yk215_1] yk215_1 = true := by decide +kernel
-- RailwayHouseModel.isBound: 287 steps
theorem ye216 : y_runE y_hn0 (ytb yw216) 100000 yc216 [yk216_0, yk216_1] = true := by decide +kernel
theorem yx216_0 : y_runC y_hn0 (ytb yw216) 100000 yc216 [yk216_0, yk216_1] yk216_0 = true := by decide +kernel
theorem yx216_1 : y_runC y_hn0 (ytb yw216) 100000 yc216 [yk216_0, yk216_1] yk216_1 = true := by decide +kernel
-- RailwayHouseModel.isHeld: 245 steps
theorem ye217 : y_runE y_hn0 (ytb yw217) 100000 yc217 [yk217_0] = true := by decide +kernel
theorem yx217_0 : y_runC y_hn0 (ytb yw217) 100000 yc217 [yk217_0] yk217_0 = true := by decide +kernel
-- RailwayHouseModel.isHeldAgainst: 137 steps
theorem ye218 : y_runE y_hn0 (ytb yw218) 100000 yc218 [yk218_0] = true := by decide +kernel
theorem yx218_0 : y_runC y_hn0 (ytb yw218) 100000 yc218 [yk218_0] yk218_0 = true := by decide +kernel
-- RailwayHouseModel.isHeldAsSection: 95 steps
theorem ye219 : y_runE y_hn0 (ytb yw219) 100000 yc219 [yk219_0] = true := by decide +kernel
theorem yx219_0 : y_runC y_hn0 (ytb yw219) 100000 yc219 [yk219_0] yk219_0 = true := by decide +kernel
-- RailwayHouseModel.isInWay: 17 steps
theorem ye220 : y_runE y_hn0 (ytb yw220) 100000 yc220 [yk220_0] = true := by decide +kernel
theorem yx220_0 : y_runC y_hn0 (ytb yw220) 100000 yc220 [yk220_0] yk220_0 = true := by decide +kernel
-- RailwayHouseModel.isTaken: 155 steps
theorem ye221 : y_runE y_hn0 (ytb yw221) 100000 yc221 [yk221_0] = true := by decide +kernel
theorem yx221_0 : y_runC y_hn0 (ytb yw221) 100000 yc221 [yk221_0] yk221_0 = true := by decide +kernel
-- RailwayHouseModel.journey: 491 steps
theorem ye222 : y_runE y_hn0 (ytb yw222) 100000 yc222 [yk222_0, yk222_1, yk222_2, yk222_3, yk222_4, yk222_5, yk222_6, yk222_7, yk222_8] = true := by decide +kernel
theorem yx222_0 : y_runC y_hn0 (ytb yw222) 100000 yc222 [yk222_0, yk222_1, yk222_2, yk222_3, yk222_4, yk222_5, yk222_6, yk222_7, yk222_8] yk222_0 = true := by decide +kernel
theorem yx222_1 : y_runC y_hn0 (ytb yw222) 100000 yc222 [yk222_0, yk222_1, yk222_2, yk222_3, yk222_4, yk222_5, yk222_6, yk222_7, yk222_8] yk222_1 = true := by decide +kernel
theorem yx222_2 : y_runC y_hn0 (ytb yw222) 100000 yc222 [yk222_0, yk222_1, yk222_2, yk222_3, yk222_4, yk222_5, yk222_6, yk222_7, yk222_8] yk222_2 = true := by decide +kernel
theorem yx222_3 : y_runC y_hn0 (ytb yw222) 100000 yc222 [yk222_0, yk222_1, yk222_2, yk222_3, yk222_4, yk222_5, yk222_6, yk222_7, yk222_8] yk222_3 = true := by decide +kernel
theorem yx222_4 : y_runC y_hn0 (ytb yw222) 100000 yc222 [yk222_0, yk222_1, yk222_2, yk222_3, yk222_4, yk222_5, yk222_6, yk222_7, yk222_8] yk222_4 = true := by decide +kernel
theorem yx222_5 : y_runC y_hn0 (ytb yw222) 100000 yc222 [yk222_0, yk222_1, yk222_2, yk222_3, yk222_4, yk222_5, yk222_6, yk222_7, yk222_8] yk222_5 = true := by decide +kernel
theorem yx222_6 : y_runC y_hn0 (ytb yw222) 100000 yc222 [yk222_0, yk222_1, yk222_2, yk222_3, yk222_4, yk222_5, yk222_6, yk222_7, yk222_8] yk222_6 = true := by decide +kernel
theorem yx222_7 : y_runC y_hn0 (ytb yw222) 100000 yc222 [yk222_0, yk222_1, yk222_2, yk222_3, yk222_4, yk222_5, yk222_6, yk222_7, yk222_8] yk222_7 = true := by decide +kernel
theorem yx222_8 : y_runC y_hn0 (ytb yw222) 100000 yc222 [yk222_0, yk222_1, yk222_2, yk222_3, yk222_4, yk222_5, yk222_6, yk222_7, yk222_8] yk222_8 = true := by decide +kernel
-- RailwayHouseModel.leg: 120 steps
theorem ye223 : y_runE y_hn0 (ytb yw223) 100000 yc223 [] = true := by decide +kernel
-- RailwayHouseModel.lie: 74 steps
theorem ye224 : y_runE y_hn0 (ytb yw224) 100000 yc224 [] = true := by decide +kernel
-- RailwayHouseModel.liesNow: 83 steps
theorem ye225 : y_runE y_hn0 (ytb yw225) 100000 yc225 [yk225_0] = true := by decide +kernel
theorem yx225_0 : y_runC y_hn0 (ytb yw225) 100000 yc225 [yk225_0] yk225_0 = true := by decide +kernel
-- RailwayHouseModel.line: 167 steps
theorem ye226 : y_runE y_hn0 (ytb yw226) 100000 yc226 [] = true := by decide +kernel
-- RailwayHouseModel.manyOn: 194 steps
theorem ye227 : y_runE y_hn0 (ytb yw227) 100000 yc227 [yk227_0] = true := by decide +kernel
theorem yx227_0 : y_runC y_hn0 (ytb yw227) 100000 yc227 [yk227_0] yk227_0 = true := by decide +kernel
-- RailwayHouseModel.mayNeed: 404 steps
theorem ye228 : y_runE y_hn0 (ytb yw228) 100000 yc228 [] = true := by decide +kernel
-- RailwayHouseModel.maySet: 252 steps
theorem ye229 : y_runE y_hn0 (ytb yw229) 100000 yc229 [yk229_0, yk229_1] = true := by decide +kernel
theorem yx229_0 : y_runC y_hn0 (ytb yw229) 100000 yc229 [yk229_0, yk229_1] yk229_0 = true := by decide +kernel
theorem yx229_1 : y_runC y_hn0 (ytb yw229) 100000 yc229 [yk229_0, yk229_1] yk229_1 = true := by decide +kernel
-- RailwayHouseModel.move: 97 steps
theorem ye230 : y_runE y_hn0 (ytb yw230) 100000 yc230 [] = true := by decide +kernel
-- RailwayHouseModel.moveBerths: 244 steps
theorem ye231 : y_runE y_hn0 (ytb yw231) 100000 yc231 [yk231_0] = true := by decide +kernel
theorem yx231_0 : y_runC y_hn0 (ytb yw231) 100000 yc231 [yk231_0] yk231_0 = true := by decide +kernel
-- RailwayHouseModel.needUnlike: 161 steps
theorem ye232 : y_runE y_hn0 (ytb yw232) 100000 yc232 [yk232_0, yk232_1] = true := by decide +kernel
theorem yx232_0 : y_runC y_hn0 (ytb yw232) 100000 yc232 [yk232_0, yk232_1] yk232_0 = true := by decide +kernel
theorem yx232_1 : y_runC y_hn0 (ytb yw232) 100000 yc232 [yk232_0, yk232_1] yk232_1 = true := by decide +kernel
-- RailwayHouseModel.nextChoices: 18 steps
theorem ye233 : y_runE y_hn0 (ytb yw233) 100000 yc233 [yk233_0] = true := by decide +kernel
theorem yx233_0 : y_runC y_hn0 (ytb yw233) 100000 yc233 [yk233_0] yk233_0 = true := by decide +kernel
-- RailwayHouseModel.nextToken: 2254 steps
theorem ye234 : y_runE y_hn0 (ytb yw234) 100000 yc234 [yk234_0, yk234_1, yk234_2, yk234_3, yk234_4, yk234_5, yk234_6, yk234_7, yk234_8, yk234_9, yk234_10, yk234_11, yk234_12, yk234_13, yk234_14, yk234_15] = true := by decide +kernel
theorem yx234_0 : y_runC y_hn0 (ytb yw234) 100000 yc234 [yk234_0, yk234_1, yk234_2, yk234_3, yk234_4, yk234_5, yk234_6, yk234_7, yk234_8, yk234_9, yk234_10, yk234_11, yk234_12, yk234_13, yk234_14, yk234_15] yk234_0 = true := by decide +kernel
theorem yx234_1 : y_runC y_hn0 (ytb yw234) 100000 yc234 [yk234_0, yk234_1, yk234_2, yk234_3, yk234_4, yk234_5, yk234_6, yk234_7, yk234_8, yk234_9, yk234_10, yk234_11, yk234_12, yk234_13, yk234_14, yk234_15] yk234_1 = true := by decide +kernel
theorem yx234_2 : y_runC y_hn0 (ytb yw234) 100000 yc234 [yk234_0, yk234_1, yk234_2, yk234_3, yk234_4, yk234_5, yk234_6, yk234_7, yk234_8, yk234_9, yk234_10, yk234_11, yk234_12, yk234_13, yk234_14, yk234_15] yk234_2 = true := by decide +kernel
theorem yx234_3 : y_runC y_hn0 (ytb yw234) 100000 yc234 [yk234_0, yk234_1, yk234_2, yk234_3, yk234_4, yk234_5, yk234_6, yk234_7, yk234_8, yk234_9, yk234_10, yk234_11, yk234_12, yk234_13, yk234_14, yk234_15] yk234_3 = true := by decide +kernel
theorem yx234_4 : y_runC y_hn0 (ytb yw234) 100000 yc234 [yk234_0, yk234_1, yk234_2, yk234_3, yk234_4, yk234_5, yk234_6, yk234_7, yk234_8, yk234_9, yk234_10, yk234_11, yk234_12, yk234_13, yk234_14, yk234_15] yk234_4 = true := by decide +kernel
theorem yx234_5 : y_runC y_hn0 (ytb yw234) 100000 yc234 [yk234_0, yk234_1, yk234_2, yk234_3, yk234_4, yk234_5, yk234_6, yk234_7, yk234_8, yk234_9, yk234_10, yk234_11, yk234_12, yk234_13, yk234_14, yk234_15] yk234_5 = true := by decide +kernel
theorem yx234_6 : y_runC y_hn0 (ytb yw234) 100000 yc234 [yk234_0, yk234_1, yk234_2, yk234_3, yk234_4, yk234_5, yk234_6, yk234_7, yk234_8, yk234_9, yk234_10, yk234_11, yk234_12, yk234_13, yk234_14, yk234_15] yk234_6 = true := by decide +kernel
theorem yx234_7 : y_runC y_hn0 (ytb yw234) 100000 yc234 [yk234_0, yk234_1, yk234_2, yk234_3, yk234_4, yk234_5, yk234_6, yk234_7, yk234_8, yk234_9, yk234_10, yk234_11, yk234_12, yk234_13, yk234_14, yk234_15] yk234_7 = true := by decide +kernel
theorem yx234_8 : y_runC y_hn0 (ytb yw234) 100000 yc234 [yk234_0, yk234_1, yk234_2, yk234_3, yk234_4, yk234_5, yk234_6, yk234_7, yk234_8, yk234_9, yk234_10, yk234_11, yk234_12, yk234_13, yk234_14, yk234_15] yk234_8 = true := by decide +kernel
theorem yx234_9 : y_runC y_hn0 (ytb yw234) 100000 yc234 [yk234_0, yk234_1, yk234_2, yk234_3, yk234_4, yk234_5, yk234_6, yk234_7, yk234_8, yk234_9, yk234_10, yk234_11, yk234_12, yk234_13, yk234_14, yk234_15] yk234_9 = true := by decide +kernel
theorem yx234_10 : y_runC y_hn0 (ytb yw234) 100000 yc234 [yk234_0, yk234_1, yk234_2, yk234_3, yk234_4, yk234_5, yk234_6, yk234_7, yk234_8, yk234_9, yk234_10, yk234_11, yk234_12, yk234_13, yk234_14, yk234_15] yk234_10 = true := by decide +kernel
theorem yx234_11 : y_runC y_hn0 (ytb yw234) 100000 yc234 [yk234_0, yk234_1, yk234_2, yk234_3, yk234_4, yk234_5, yk234_6, yk234_7, yk234_8, yk234_9, yk234_10, yk234_11, yk234_12, yk234_13, yk234_14, yk234_15] yk234_11 = true := by decide +kernel
theorem yx234_12 : y_runC y_hn0 (ytb yw234) 100000 yc234 [yk234_0, yk234_1, yk234_2, yk234_3, yk234_4, yk234_5, yk234_6, yk234_7, yk234_8, yk234_9, yk234_10, yk234_11, yk234_12, yk234_13, yk234_14, yk234_15] yk234_12 = true := by decide +kernel
theorem yx234_13 : y_runC y_hn0 (ytb yw234) 100000 yc234 [yk234_0, yk234_1, yk234_2, yk234_3, yk234_4, yk234_5, yk234_6, yk234_7, yk234_8, yk234_9, yk234_10, yk234_11, yk234_12, yk234_13, yk234_14, yk234_15] yk234_13 = true := by decide +kernel
theorem yx234_14 : y_runC y_hn0 (ytb yw234) 100000 yc234 [yk234_0, yk234_1, yk234_2, yk234_3, yk234_4, yk234_5, yk234_6, yk234_7, yk234_8, yk234_9, yk234_10, yk234_11, yk234_12, yk234_13, yk234_14, yk234_15] yk234_14 = true := by decide +kernel
theorem yx234_15 : y_runC y_hn0 (ytb yw234) 100000 yc234 [yk234_0, yk234_1, yk234_2, yk234_3, yk234_4, yk234_5, yk234_6, yk234_7, yk234_8, yk234_9, yk234_10, yk234_11, yk234_12, yk234_13, yk234_14, yk234_15] yk234_15 = true := by decide +kernel
-- RailwayHouseModel.noReports: 37 steps
theorem ye235 : y_runE y_hn0 (ytb yw235) 100000 yc235 [yk235_0] = true := by decide +kernel
theorem yx235_0 : y_runC y_hn0 (ytb yw235) 100000 yc235 [yk235_0] yk235_0 = true := by decide +kernel
-- RailwayHouseModel.offer: 88 steps
theorem ye236 : y_runE y_hn0 (ytb yw236) 100000 yc236 [] = true := by decide +kernel
-- RailwayHouseModel.option: 55 steps
theorem ye237 : y_runE y_hn0 (ytb yw237) 100000 yc237 [] = true := by decide +kernel
-- RailwayHouseModel.order: 115 steps
theorem ye238 : y_runE y_hn0 (ytb yw238) 100000 yc238 [yk238_0] = true := by decide +kernel
theorem yx238_0 : y_runC y_hn0 (ytb yw238) 100000 yc238 [yk238_0] yk238_0 = true := by decide +kernel
-- RailwayHouseModel.order: 115 steps
theorem ye239 : y_runE y_hn0 (ytb yw239) 100000 yc239 [yk239_0] = true := by decide +kernel
theorem yx239_0 : y_runC y_hn0 (ytb yw239) 100000 yc239 [yk239_0] yk239_0 = true := by decide +kernel
-- RailwayHouseModel.order: 115 steps
theorem ye240 : y_runE y_hn0 (ytb yw240) 100000 yc240 [yk240_0] = true := by decide +kernel
theorem yx240_0 : y_runC y_hn0 (ytb yw240) 100000 yc240 [yk240_0] yk240_0 = true := by decide +kernel
-- RailwayHouseModel.order: 115 steps
theorem ye241 : y_runE y_hn0 (ytb yw241) 100000 yc241 [yk241_0] = true := by decide +kernel
theorem yx241_0 : y_runC y_hn0 (ytb yw241) 100000 yc241 [yk241_0] yk241_0 = true := by decide +kernel
-- RailwayHouseModel.orderIn: 166 steps
theorem ye242 : y_runE y_hn0 (ytb yw242) 100000 yc242 [] = true := by decide +kernel
-- RailwayHouseModel.orderIn: 29 steps
theorem ye243 : y_runE y_hn0 (ytb yw243) 100000 yc243 [] = true := by decide +kernel
-- RailwayHouseModel.orderIn: 71 steps
theorem ye244 : y_runE y_hn0 (ytb yw244) 100000 yc244 [] = true := by decide +kernel
-- RailwayHouseModel.orderIn: 154 steps
theorem ye245 : y_runE y_hn0 (ytb yw245) 100000 yc245 [] = true := by decide +kernel
-- RailwayHouseModel.pay: 41 steps
theorem ye246 : y_runE y_hn0 (ytb yw246) 100000 yc246 [] = true := by decide +kernel
-- RailwayHouseModel.place: 3 steps
theorem ye247 : y_runE y_hn0 (ytb yw247) 100000 yc247 [] = true := by decide +kernel
-- RailwayHouseModel.pointGoes: 125 steps
theorem ye248 : y_runE y_hn0 (ytb yw248) 100000 yc248 [] = true := by decide +kernel
-- RailwayHouseModel.proceedsAlone: 310 steps
theorem ye249 : y_runE y_hn0 (ytb yw249) 100000 yc249 [yk249_0] = true := by decide +kernel
theorem yx249_0 : y_runC y_hn0 (ytb yw249) 100000 yc249 [yk249_0] yk249_0 = true := by decide +kernel
-- RailwayHouseModel.readJoin: 7607 steps
theorem ye250 : y_runE y_hn0 (ytb yw250) 100000 yc250 [] = true := by decide +kernel
