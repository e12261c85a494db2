-- RailwayHouseModel.readStatement: 136 steps
theorem ye293 : y_runE y_hn0 (ytb yw293) 100000 yc293 [] = true := by decide +kernel
-- RailwayHouseModel.readStop: 677 steps
theorem ye294 : y_runE y_hn0 (ytb yw294) 100000 yc294 [] = true := by decide +kernel
-- RailwayHouseModel.release: 55 steps
theorem ye295 : y_runE y_hn0 (ytb yw295) 100000 yc295 [] = true := by decide +kernel
-- RailwayHouseModel.report: 1233 steps
theorem ye296 : y_runE y_hn0 (ytb yw296) 100000 yc296 [yk296_0] = true := by decide +kernel
theorem yx296_0 : y_runC y_hn0 (ytb yw296) 100000 yc296 [yk296_0] yk296_0 = true := by decide +kernel
-- RailwayHouseModel.reset: 169 steps
theorem ye297 : y_runE y_hn0 (ytb yw297) 100000 yc297 [yk297_0, yk297_1] = true := by decide +kernel
theorem yx297_0 : y_runC y_hn0 (ytb yw297) 100000 yc297 [yk297_0, yk297_1] yk297_0 = true := by decide +kernel
theorem yx297_1 : y_runC y_hn0 (ytb yw297) 100000 yc297 [yk297_0, yk297_1] yk297_1 = true := by decide +kernel
-- RailwayHouseModel.route: 72 steps
theorem ye298 : y_runE y_hn0 (ytb yw298) 100000 yc298 [] = true := by decide +kernel
-- RailwayHouseModel.routeAt: 126 steps
theorem ye299 : y_runE y_hn0 (ytb yw299) 100000 yc299 [] = true := by decide +kernel
-- RailwayHouseModel.routeNeed: 91 steps
theorem ye300 : y_runE y_hn0 (ytb yw300) 100000 yc300 [] = true := by decide +kernel
-- RailwayHouseModel.routeNow: 356 steps
theorem ye301 : y_runE y_hn0 (ytb yw301) 100000 yc301 [] = true := by decide +kernel
-- RailwayHouseModel.routeSection: 80 steps
theorem ye302 : y_runE y_hn0 (ytb yw302) 100000 yc302 [] = true := by decide +kernel
-- RailwayHouseModel.run: 53 steps
theorem ye303 : y_runE y_hn0 (ytb yw303) 100000 yc303 [] = true := by decide +kernel
-- RailwayHouseModel.samePhases: 327 steps
theorem ye304 : y_runE y_hn0 (ytb yw304) 100000 yc304 [yk304_0] = true := by decide +kernel
theorem yx304_0 : y_runC y_hn0 (ytb yw304) 100000 yc304 [yk304_0] yk304_0 = true := by decide +kernel
-- RailwayHouseModel.section: 127 steps
theorem ye305 : y_runE y_hn0 (ytb yw305) 100000 yc305 [] = true := by decide +kernel
-- RailwayHouseModel.sectionsOf: 69 steps
theorem ye306 : y_runE y_hn0 (ytb yw306) 100000 yc306 [yk306_0] = true := by decide +kernel
theorem yx306_0 : y_runC y_hn0 (ytb yw306) 100000 yc306 [yk306_0] yk306_0 = true := by decide +kernel
-- RailwayHouseModel.set: 49 steps
theorem ye307 : y_runE y_hn0 (ytb yw307) 100000 yc307 [] = true := by decide +kernel
-- RailwayHouseModel.shareSections: 95 steps
theorem ye308 : y_runE y_hn0 (ytb yw308) 100000 yc308 [yk308_0] = true := by decide +kernel
theorem yx308_0 : y_runC y_hn0 (ytb yw308) 100000 yc308 [yk308_0] yk308_0 = true := by decide +kernel
-- RailwayHouseModel.signal: 69 steps
theorem ye309 : y_runE y_hn0 (ytb yw309) 100000 yc309 [] = true := by decide +kernel
-- RailwayHouseModel.speedOf: 138 steps
theorem ye310 : y_runE y_hn0 (ytb yw310) 100000 yc310 [yk310_0] = true := by decide +kernel
theorem yx310_0 : y_runC y_hn0 (ytb yw310) 100000 yc310 [yk310_0] yk310_0 = true := by decide +kernel
-- RailwayHouseModel.stand: 82 steps
theorem ye311 : y_runE y_hn0 (ytb yw311) 100000 yc311 [] = true := by decide +kernel
-- RailwayHouseModel.start: 79 steps
theorem ye312 : y_runE y_hn0 (ytb yw312) 100000 yc312 [yk312_0, yk312_1] = true := by decide +kernel
theorem yx312_0 : y_runC y_hn0 (ytb yw312) 100000 yc312 [yk312_0, yk312_1] yk312_0 = true := by decide +kernel
theorem yx312_1 : y_runC y_hn0 (ytb yw312) 100000 yc312 [yk312_0, yk312_1] yk312_1 = true := by decide +kernel
-- RailwayHouseModel.station: 84 steps
theorem ye313 : y_runE y_hn0 (ytb yw313) 100000 yc313 [] = true := by decide +kernel
-- RailwayHouseModel.stopAt: 260 steps
theorem ye314 : y_runE y_hn0 (ytb yw314) 100000 yc314 [] = true := by decide +kernel
-- RailwayHouseModel.sync: 812 steps
theorem ye315 : y_runE y_hn0 (ytb yw315) 100000 yc315 [yk315_0] = true := by decide +kernel
theorem yx315_0 : y_runC y_hn0 (ytb yw315) 100000 yc315 [yk315_0] yk315_0 = true := by decide +kernel
-- RailwayHouseModel.takeFromDisk: 411 steps
theorem ye316 : y_runE y_hn0 (ytb yw316) 100000 yc316 [] = true := by decide +kernel
-- RailwayHouseModel.takeLayout: 1355 steps
theorem ye317 : y_runE y_hn0 (ytb yw317) 100000 yc317 [yk317_0, yk317_1, yk317_2, yk317_3] = true := by decide +kernel
theorem yx317_0 : y_runC y_hn0 (ytb yw317) 100000 yc317 [yk317_0, yk317_1, yk317_2, yk317_3] yk317_0 = true := by decide +kernel
theorem yx317_1 : y_runC y_hn0 (ytb yw317) 100000 yc317 [yk317_0, yk317_1, yk317_2, yk317_3] yk317_1 = true := by decide +kernel
theorem yx317_2 : y_runC y_hn0 (ytb yw317) 100000 yc317 [yk317_0, yk317_1, yk317_2, yk317_3] yk317_2 = true := by decide +kernel
theorem yx317_3 : y_runC y_hn0 (ytb yw317) 100000 yc317 [yk317_0, yk317_1, yk317_2, yk317_3] yk317_3 = true := by decide +kernel
-- RailwayHouseModel.takeLayout: 1633 steps
theorem ye318 : y_runE y_hn0 (ytb yw318) 100000 yc318 [yk318_0, yk318_1, yk318_2, yk318_3, yk318_4] = true := by decide +kernel
theorem yx318_0 : y_runC y_hn0 (ytb yw318) 100000 yc318 [yk318_0, yk318_1, yk318_2, yk318_3, yk318_4] yk318_0 = true := by decide +kernel
theorem yx318_1 : y_runC y_hn0 (ytb yw318) 100000 yc318 [yk318_0, yk318_1, yk318_2, yk318_3, yk318_4] yk318_1 = true := by decide +kernel
theorem yx318_2 : y_runC y_hn0 (ytb yw318) 100000 yc318 [yk318_0, yk318_1, yk318_2, yk318_3, yk318_4] yk318_2 = true := by decide +kernel
theorem yx318_3 : y_runC y_hn0 (ytb yw318) 100000 yc318 [yk318_0, yk318_1, yk318_2, yk318_3, yk318_4] yk318_3 = true := by decide +kernel
theorem yx318_4 : y_runC y_hn0 (ytb yw318) 100000 yc318 [yk318_0, yk318_1, yk318_2, yk318_3, yk318_4] yk318_4 = true := by decide +kernel
-- RailwayHouseModel.takeLayout: 1357 steps
theorem ye319 : y_runE y_hn0 (ytb yw319) 100000 yc319 [yk319_0, yk319_1, yk319_2, yk319_3] = true := by decide +kernel
theorem yx319_0 : y_runC y_hn0 (ytb yw319) 100000 yc319 [yk319_0, yk319_1, yk319_2, yk319_3] yk319_0 = true := by decide +kernel
theorem yx319_1 : y_runC y_hn0 (ytb yw319) 100000 yc319 [yk319_0, yk319_1, yk319_2, yk319_3] yk319_1 = true := by decide +kernel
theorem yx319_2 : y_runC y_hn0 (ytb yw319) 100000 yc319 [yk319_0, yk319_1, yk319_2, yk319_3] yk319_2 = true := by decide +kernel
theorem yx319_3 : y_runC y_hn0 (ytb yw319) 100000 yc319 [yk319_0, yk319_1, yk319_2, yk319_3] yk319_3 = true := by decide +kernel
-- RailwayHouseModel.takeLayout: 1357 steps
theorem ye320 : y_runE y_hn0 (ytb yw320) 100000 yc320 [yk320_0, yk320_1, yk320_2, yk320_3] = true := by decide +kernel
theorem yx320_0 : y_runC y_hn0 (ytb yw320) 100000 yc320 [yk320_0, yk320_1, yk320_2, yk320_3] yk320_0 = true := by decide +kernel
theorem yx320_1 : y_runC y_hn0 (ytb yw320) 100000 yc320 [yk320_0, yk320_1, yk320_2, yk320_3] yk320_1 = true := by decide +kernel
theorem yx320_2 : y_runC y_hn0 (ytb yw320) 100000 yc320 [yk320_0, yk320_1, yk320_2, yk320_3] yk320_2 = true := by decide +kernel
theorem yx320_3 : y_runC y_hn0 (ytb yw320) 100000 yc320 [yk320_0, yk320_1, yk320_2, yk320_3] yk320_3 = true := by decide +kernel
-- RailwayHouseModel.takeLayout: 1357 steps
theorem ye321 : y_runE y_hn0 (ytb yw321) 100000 yc321 [yk321_0, yk321_1, yk321_2, yk321_3] = true := by decide +kernel
theorem yx321_0 : y_runC y_hn0 (ytb yw321) 100000 yc321 [yk321_0, yk321_1, yk321_2, yk321_3] yk321_0 = true := by decide +kernel
theorem yx321_1 : y_runC y_hn0 (ytb yw321) 100000 yc321 [yk321_0, yk321_1, yk321_2, yk321_3] yk321_1 = true := by decide +kernel
theorem yx321_2 : y_runC y_hn0 (ytb yw321) 100000 yc321 [yk321_0, yk321_1, yk321_2, yk321_3] yk321_2 = true := by decide +kernel
theorem yx321_3 : y_runC y_hn0 (ytb yw321) 100000 yc321 [yk321_0, yk321_1, yk321_2, yk321_3] yk321_3 = true := by decide +kernel
