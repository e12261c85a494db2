-- RailwayHouseModel.reset: 169 steps
theorem ye250 : y_runE y_hn0 (ytb yw250) 100000 yc250 [yk250_0, yk250_1] = true := by decide +kernel
theorem yx250_0 : y_runC y_hn0 (ytb yw250) 100000 yc250 [yk250_0, yk250_1] yk250_0 = true := by decide +kernel
theorem yx250_1 : y_runC y_hn0 (ytb yw250) 100000 yc250 [yk250_0, yk250_1] yk250_1 = true := by decide +kernel
-- RailwayHouseModel.route: 72 steps
theorem ye251 : y_runE y_hn0 (ytb yw251) 100000 yc251 [] = true := by decide +kernel
-- RailwayHouseModel.routeAt: 126 steps
theorem ye252 : y_runE y_hn0 (ytb yw252) 100000 yc252 [] = true := by decide +kernel
-- RailwayHouseModel.routeNeed: 91 steps
theorem ye253 : y_runE y_hn0 (ytb yw253) 100000 yc253 [] = true := by decide +kernel
-- RailwayHouseModel.routeNow: 356 steps
theorem ye254 : y_runE y_hn0 (ytb yw254) 100000 yc254 [] = true := by decide +kernel
-- RailwayHouseModel.routeSection: 80 steps
theorem ye255 : y_runE y_hn0 (ytb yw255) 100000 yc255 [] = true := by decide +kernel
-- RailwayHouseModel.run: 53 steps
theorem ye256 : y_runE y_hn0 (ytb yw256) 100000 yc256 [] = true := by decide +kernel
-- RailwayHouseModel.samePhases: 327 steps
theorem ye257 : y_runE y_hn0 (ytb yw257) 100000 yc257 [yk257_0] = true := by decide +kernel
theorem yx257_0 : y_runC y_hn0 (ytb yw257) 100000 yc257 [yk257_0] yk257_0 = true := by decide +kernel
-- RailwayHouseModel.section: 127 steps
theorem ye258 : y_runE y_hn0 (ytb yw258) 100000 yc258 [] = true := by decide +kernel
-- RailwayHouseModel.set: 49 steps
theorem ye259 : y_runE y_hn0 (ytb yw259) 100000 yc259 [] = true := by decide +kernel
-- RailwayHouseModel.shareSections: 95 steps
theorem ye260 : y_runE y_hn0 (ytb yw260) 100000 yc260 [yk260_0] = true := by decide +kernel
theorem yx260_0 : y_runC y_hn0 (ytb yw260) 100000 yc260 [yk260_0] yk260_0 = true := by decide +kernel
-- RailwayHouseModel.signal: 69 steps
theorem ye261 : y_runE y_hn0 (ytb yw261) 100000 yc261 [] = true := by decide +kernel
-- RailwayHouseModel.stand: 82 steps
theorem ye262 : y_runE y_hn0 (ytb yw262) 100000 yc262 [] = true := by decide +kernel
-- RailwayHouseModel.start: 79 steps
theorem ye263 : y_runE y_hn0 (ytb yw263) 100000 yc263 [yk263_0, yk263_1] = true := by decide +kernel
theorem yx263_0 : y_runC y_hn0 (ytb yw263) 100000 yc263 [yk263_0, yk263_1] yk263_0 = true := by decide +kernel
theorem yx263_1 : y_runC y_hn0 (ytb yw263) 100000 yc263 [yk263_0, yk263_1] yk263_1 = true := by decide +kernel
-- RailwayHouseModel.station: 84 steps
theorem ye264 : y_runE y_hn0 (ytb yw264) 100000 yc264 [] = true := by decide +kernel
-- RailwayHouseModel.stopAt: 260 steps
theorem ye265 : y_runE y_hn0 (ytb yw265) 100000 yc265 [] = true := by decide +kernel
-- RailwayHouseModel.sync: 812 steps
theorem ye266 : y_runE y_hn0 (ytb yw266) 100000 yc266 [yk266_0] = true := by decide +kernel
theorem yx266_0 : y_runC y_hn0 (ytb yw266) 100000 yc266 [yk266_0] yk266_0 = true := by decide +kernel
-- RailwayHouseModel.takeFromDisk: 411 steps
theorem ye267 : y_runE y_hn0 (ytb yw267) 100000 yc267 [] = true := by decide +kernel
-- RailwayHouseModel.takeLayout: 255 steps
theorem ye268 : y_runE y_hn0 (ytb yw268) 100000 yc268 [yk268_0, yk268_1, yk268_2] = true := by decide +kernel
theorem yx268_0 : y_runC y_hn0 (ytb yw268) 100000 yc268 [yk268_0, yk268_1, yk268_2] yk268_0 = true := by decide +kernel
theorem yx268_1 : y_runC y_hn0 (ytb yw268) 100000 yc268 [yk268_0, yk268_1, yk268_2] yk268_1 = true := by decide +kernel
theorem yx268_2 : y_runC y_hn0 (ytb yw268) 100000 yc268 [yk268_0, yk268_1, yk268_2] yk268_2 = true := by decide +kernel
-- RailwayHouseModel.turn: 73 steps
theorem ye269 : y_runE y_hn0 (ytb yw269) 100000 yc269 [] = true := by decide +kernel
-- RailwayHouseModel.used: 127 steps
theorem ye270 : y_runE y_hn0 (ytb yw270) 100000 yc270 [] = true := by decide +kernel
-- RailwayHouseModel.vote: 429 steps
theorem ye271 : y_runE y_hn0 (ytb yw271) 100000 yc271 [yk271_0, yk271_1, yk271_2] = true := by decide +kernel
theorem yx271_0 : y_runC y_hn0 (ytb yw271) 100000 yc271 [yk271_0, yk271_1, yk271_2] yk271_0 = true := by decide +kernel
theorem yx271_1 : y_runC y_hn0 (ytb yw271) 100000 yc271 [yk271_0, yk271_1, yk271_2] yk271_1 = true := by decide +kernel
theorem yx271_2 : y_runC y_hn0 (ytb yw271) 100000 yc271 [yk271_0, yk271_1, yk271_2] yk271_2 = true := by decide +kernel
-- RailwayHouseModel.voters: 53 steps
theorem ye272 : y_runE y_hn0 (ytb yw272) 100000 yc272 [yk272_0] = true := by decide +kernel
theorem yx272_0 : y_runC y_hn0 (ytb yw272) 100000 yc272 [yk272_0] yk272_0 = true := by decide +kernel
