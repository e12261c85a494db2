-- RailwayHouseModel.readStatement: 136 steps
theorem ye298 : y_runE y_hn0 (ytb yw298) 100000 yc298 [] = true := by decide +kernel
-- RailwayHouseModel.readStop: 677 steps
theorem ye299 : y_runE y_hn0 (ytb yw299) 100000 yc299 [] = true := by decide +kernel
-- RailwayHouseModel.release: 55 steps
theorem ye300 : y_runE y_hn0 (ytb yw300) 100000 yc300 [] = true := by decide +kernel
-- RailwayHouseModel.report: 1233 steps
theorem ye301 : y_runE y_hn0 (ytb yw301) 100000 yc301 [yk301_0] = true := by decide +kernel
theorem yx301_0 : y_runC y_hn0 (ytb yw301) 100000 yc301 [yk301_0] yk301_0 = true := by decide +kernel
-- RailwayHouseModel.reset: 169 steps
theorem ye302 : y_runE y_hn0 (ytb yw302) 100000 yc302 [yk302_0, yk302_1] = true := by decide +kernel
theorem yx302_0 : y_runC y_hn0 (ytb yw302) 100000 yc302 [yk302_0, yk302_1] yk302_0 = true := by decide +kernel
theorem yx302_1 : y_runC y_hn0 (ytb yw302) 100000 yc302 [yk302_0, yk302_1] yk302_1 = true := by decide +kernel
-- RailwayHouseModel.route: 72 steps
theorem ye303 : y_runE y_hn0 (ytb yw303) 100000 yc303 [] = true := by decide +kernel
-- RailwayHouseModel.routeAt: 126 steps
theorem ye304 : y_runE y_hn0 (ytb yw304) 100000 yc304 [] = true := by decide +kernel
-- RailwayHouseModel.routeNeed: 91 steps
theorem ye305 : y_runE y_hn0 (ytb yw305) 100000 yc305 [] = true := by decide +kernel
-- RailwayHouseModel.routeNow: 356 steps
theorem ye306 : y_runE y_hn0 (ytb yw306) 100000 yc306 [] = true := by decide +kernel
-- RailwayHouseModel.routeSection: 80 steps
theorem ye307 : y_runE y_hn0 (ytb yw307) 100000 yc307 [] = true := by decide +kernel
-- RailwayHouseModel.run: 53 steps
theorem ye308 : y_runE y_hn0 (ytb yw308) 100000 yc308 [] = true := by decide +kernel
-- RailwayHouseModel.samePhases: 327 steps
theorem ye309 : y_runE y_hn0 (ytb yw309) 100000 yc309 [yk309_0] = true := by decide +kernel
theorem yx309_0 : y_runC y_hn0 (ytb yw309) 100000 yc309 [yk309_0] yk309_0 = true := by decide +kernel
-- RailwayHouseModel.section: 127 steps
theorem ye310 : y_runE y_hn0 (ytb yw310) 100000 yc310 [] = true := by decide +kernel
-- RailwayHouseModel.sectionsOf: 69 steps
theorem ye311 : y_runE y_hn0 (ytb yw311) 100000 yc311 [yk311_0] = true := by decide +kernel
theorem yx311_0 : y_runC y_hn0 (ytb yw311) 100000 yc311 [yk311_0] yk311_0 = true := by decide +kernel
-- RailwayHouseModel.set: 49 steps
theorem ye312 : y_runE y_hn0 (ytb yw312) 100000 yc312 [] = true := by decide +kernel
-- RailwayHouseModel.shareSections: 95 steps
theorem ye313 : y_runE y_hn0 (ytb yw313) 100000 yc313 [yk313_0] = true := by decide +kernel
theorem yx313_0 : y_runC y_hn0 (ytb yw313) 100000 yc313 [yk313_0] yk313_0 = true := by decide +kernel
-- RailwayHouseModel.signal: 69 steps
theorem ye314 : y_runE y_hn0 (ytb yw314) 100000 yc314 [] = true := by decide +kernel
-- RailwayHouseModel.speedOf: 138 steps
theorem ye315 : y_runE y_hn0 (ytb yw315) 100000 yc315 [yk315_0] = true := by decide +kernel
theorem yx315_0 : y_runC y_hn0 (ytb yw315) 100000 yc315 [yk315_0] yk315_0 = true := by decide +kernel
-- RailwayHouseModel.stand: 82 steps
theorem ye316 : y_runE y_hn0 (ytb yw316) 100000 yc316 [] = true := by decide +kernel
-- RailwayHouseModel.start: 79 steps
theorem ye317 : y_runE y_hn0 (ytb yw317) 100000 yc317 [yk317_0, yk317_1] = true := by decide +kernel
theorem yx317_0 : y_runC y_hn0 (ytb yw317) 100000 yc317 [yk317_0, yk317_1] yk317_0 = true := by decide +kernel
theorem yx317_1 : y_runC y_hn0 (ytb yw317) 100000 yc317 [yk317_0, yk317_1] yk317_1 = true := by decide +kernel
-- RailwayHouseModel.station: 84 steps
theorem ye318 : y_runE y_hn0 (ytb yw318) 100000 yc318 [] = true := by decide +kernel
-- RailwayHouseModel.stopAt: 260 steps
theorem ye319 : y_runE y_hn0 (ytb yw319) 100000 yc319 [] = true := by decide +kernel
-- RailwayHouseModel.sync: 812 steps
theorem ye320 : y_runE y_hn0 (ytb yw320) 100000 yc320 [yk320_0] = true := by decide +kernel
theorem yx320_0 : y_runC y_hn0 (ytb yw320) 100000 yc320 [yk320_0] yk320_0 = true := by decide +kernel
-- RailwayHouseModel.takeFromDisk: 411 steps
theorem ye321 : y_runE y_hn0 (ytb yw321) 100000 yc321 [] = true := by decide +kernel
-- RailwayHouseModel.takeLayout: 1355 steps
theorem ye322 : y_runE y_hn0 (ytb yw322) 100000 yc322 [yk322_0, yk322_1, yk322_2, yk322_3] = true := by decide +kernel
theorem yx322_0 : y_runC y_hn0 (ytb yw322) 100000 yc322 [yk322_0, yk322_1, yk322_2, yk322_3] yk322_0 = true := by decide +kernel
theorem yx322_1 : y_runC y_hn0 (ytb yw322) 100000 yc322 [yk322_0, yk322_1, yk322_2, yk322_3] yk322_1 = true := by decide +kernel
theorem yx322_2 : y_runC y_hn0 (ytb yw322) 100000 yc322 [yk322_0, yk322_1, yk322_2, yk322_3] yk322_2 = true := by decide +kernel
theorem yx322_3 : y_runC y_hn0 (ytb yw322) 100000 yc322 [yk322_0, yk322_1, yk322_2, yk322_3] yk322_3 = true := by decide +kernel
-- RailwayHouseModel.takeLayout: 1633 steps
theorem ye323 : y_runE y_hn0 (ytb yw323) 100000 yc323 [yk323_0, yk323_1, yk323_2, yk323_3, yk323_4] = true := by decide +kernel
theorem yx323_0 : y_runC y_hn0 (ytb yw323) 100000 yc323 [yk323_0, yk323_1, yk323_2, yk323_3, yk323_4] yk323_0 = true := by decide +kernel
theorem yx323_1 : y_runC y_hn0 (ytb yw323) 100000 yc323 [yk323_0, yk323_1, yk323_2, yk323_3, yk323_4] yk323_1 = true := by decide +kernel
theorem yx323_2 : y_runC y_hn0 (ytb yw323) 100000 yc323 [yk323_0, yk323_1, yk323_2, yk323_3, yk323_4] yk323_2 = true := by decide +kernel
theorem yx323_3 : y_runC y_hn0 (ytb yw323) 100000 yc323 [yk323_0, yk323_1, yk323_2, yk323_3, yk323_4] yk323_3 = true := by decide +kernel
theorem yx323_4 : y_runC y_hn0 (ytb yw323) 100000 yc323 [yk323_0, yk323_1, yk323_2, yk323_3, yk323_4] yk323_4 = true := by decide +kernel
-- RailwayHouseModel.takeLayout: 1357 steps
theorem ye324 : y_runE y_hn0 (ytb yw324) 100000 yc324 [yk324_0, yk324_1, yk324_2, yk324_3] = true := by decide +kernel
theorem yx324_0 : y_runC y_hn0 (ytb yw324) 100000 yc324 [yk324_0, yk324_1, yk324_2, yk324_3] yk324_0 = true := by decide +kernel
theorem yx324_1 : y_runC y_hn0 (ytb yw324) 100000 yc324 [yk324_0, yk324_1, yk324_2, yk324_3] yk324_1 = true := by decide +kernel
theorem yx324_2 : y_runC y_hn0 (ytb yw324) 100000 yc324 [yk324_0, yk324_1, yk324_2, yk324_3] yk324_2 = true := by decide +kernel
theorem yx324_3 : y_runC y_hn0 (ytb yw324) 100000 yc324 [yk324_0, yk324_1, yk324_2, yk324_3] yk324_3 = true := by decide +kernel
-- RailwayHouseModel.takeLayout: 1357 steps
theorem ye325 : y_runE y_hn0 (ytb yw325) 100000 yc325 [yk325_0, yk325_1, yk325_2, yk325_3] = true := by decide +kernel
theorem yx325_0 : y_runC y_hn0 (ytb yw325) 100000 yc325 [yk325_0, yk325_1, yk325_2, yk325_3] yk325_0 = true := by decide +kernel
theorem yx325_1 : y_runC y_hn0 (ytb yw325) 100000 yc325 [yk325_0, yk325_1, yk325_2, yk325_3] yk325_1 = true := by decide +kernel
theorem yx325_2 : y_runC y_hn0 (ytb yw325) 100000 yc325 [yk325_0, yk325_1, yk325_2, yk325_3] yk325_2 = true := by decide +kernel
theorem yx325_3 : y_runC y_hn0 (ytb yw325) 100000 yc325 [yk325_0, yk325_1, yk325_2, yk325_3] yk325_3 = true := by decide +kernel
-- RailwayHouseModel.takeLayout: 1357 steps
theorem ye326 : y_runE y_hn0 (ytb yw326) 100000 yc326 [yk326_0, yk326_1, yk326_2, yk326_3] = true := by decide +kernel
theorem yx326_0 : y_runC y_hn0 (ytb yw326) 100000 yc326 [yk326_0, yk326_1, yk326_2, yk326_3] yk326_0 = true := by decide +kernel
theorem yx326_1 : y_runC y_hn0 (ytb yw326) 100000 yc326 [yk326_0, yk326_1, yk326_2, yk326_3] yk326_1 = true := by decide +kernel
theorem yx326_2 : y_runC y_hn0 (ytb yw326) 100000 yc326 [yk326_0, yk326_1, yk326_2, yk326_3] yk326_2 = true := by decide +kernel
theorem yx326_3 : y_runC y_hn0 (ytb yw326) 100000 yc326 [yk326_0, yk326_1, yk326_2, yk326_3] yk326_3 = true := by decide +kernel
