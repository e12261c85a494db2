-- RailwayHouseModel.readLayout: 182 steps
theorem ye251 : y_runE y_hn0 (ytb yw251) 100000 yc251 [yk251_0, yk251_1] = true := by decide +kernel
theorem yx251_0 : y_runC y_hn0 (ytb yw251) 100000 yc251 [yk251_0, yk251_1] yk251_0 = true := by decide +kernel
theorem yx251_1 : y_runC y_hn0 (ytb yw251) 100000 yc251 [yk251_0, yk251_1] yk251_1 = true := by decide +kernel
-- RailwayHouseModel.readSection: 740 steps
theorem ye252 : y_runE y_hn0 (ytb yw252) 100000 yc252 [yk252_0] = true := by decide +kernel
theorem yx252_0 : y_runC y_hn0 (ytb yw252) 100000 yc252 [yk252_0] yk252_0 = true := by decide +kernel
-- RailwayHouseModel.readSignal: 1051 steps
theorem ye253 : y_runE y_hn0 (ytb yw253) 100000 yc253 [] = true := by decide +kernel
-- RailwayHouseModel.readStatement: 136 steps
theorem ye254 : y_runE y_hn0 (ytb yw254) 100000 yc254 [] = true := by decide +kernel
-- RailwayHouseModel.readStop: 677 steps
theorem ye255 : y_runE y_hn0 (ytb yw255) 100000 yc255 [] = true := by decide +kernel
-- RailwayHouseModel.release: 55 steps
theorem ye256 : y_runE y_hn0 (ytb yw256) 100000 yc256 [] = true := by decide +kernel
-- RailwayHouseModel.report: 1233 steps
theorem ye257 : y_runE y_hn0 (ytb yw257) 100000 yc257 [yk257_0] = true := by decide +kernel
theorem yx257_0 : y_runC y_hn0 (ytb yw257) 100000 yc257 [yk257_0] yk257_0 = true := by decide +kernel
-- RailwayHouseModel.reset: 169 steps
theorem ye258 : y_runE y_hn0 (ytb yw258) 100000 yc258 [yk258_0, yk258_1] = true := by decide +kernel
theorem yx258_0 : y_runC y_hn0 (ytb yw258) 100000 yc258 [yk258_0, yk258_1] yk258_0 = true := by decide +kernel
theorem yx258_1 : y_runC y_hn0 (ytb yw258) 100000 yc258 [yk258_0, yk258_1] yk258_1 = true := by decide +kernel
-- RailwayHouseModel.route: 72 steps
theorem ye259 : y_runE y_hn0 (ytb yw259) 100000 yc259 [] = true := by decide +kernel
-- RailwayHouseModel.routeAt: 126 steps
theorem ye260 : y_runE y_hn0 (ytb yw260) 100000 yc260 [] = true := by decide +kernel
-- RailwayHouseModel.routeNeed: 91 steps
theorem ye261 : y_runE y_hn0 (ytb yw261) 100000 yc261 [] = true := by decide +kernel
-- RailwayHouseModel.routeNow: 356 steps
theorem ye262 : y_runE y_hn0 (ytb yw262) 100000 yc262 [] = true := by decide +kernel
-- RailwayHouseModel.routeSection: 80 steps
theorem ye263 : y_runE y_hn0 (ytb yw263) 100000 yc263 [] = true := by decide +kernel
-- RailwayHouseModel.run: 53 steps
theorem ye264 : y_runE y_hn0 (ytb yw264) 100000 yc264 [] = true := by decide +kernel
-- RailwayHouseModel.samePhases: 327 steps
theorem ye265 : y_runE y_hn0 (ytb yw265) 100000 yc265 [yk265_0] = true := by decide +kernel
theorem yx265_0 : y_runC y_hn0 (ytb yw265) 100000 yc265 [yk265_0] yk265_0 = true := by decide +kernel
-- RailwayHouseModel.section: 127 steps
theorem ye266 : y_runE y_hn0 (ytb yw266) 100000 yc266 [] = true := by decide +kernel
-- RailwayHouseModel.set: 49 steps
theorem ye267 : y_runE y_hn0 (ytb yw267) 100000 yc267 [] = true := by decide +kernel
-- RailwayHouseModel.shareSections: 95 steps
theorem ye268 : y_runE y_hn0 (ytb yw268) 100000 yc268 [yk268_0] = true := by decide +kernel
theorem yx268_0 : y_runC y_hn0 (ytb yw268) 100000 yc268 [yk268_0] yk268_0 = true := by decide +kernel
-- RailwayHouseModel.signal: 69 steps
theorem ye269 : y_runE y_hn0 (ytb yw269) 100000 yc269 [] = true := by decide +kernel
-- RailwayHouseModel.stand: 82 steps
theorem ye270 : y_runE y_hn0 (ytb yw270) 100000 yc270 [] = true := by decide +kernel
-- RailwayHouseModel.start: 79 steps
theorem ye271 : y_runE y_hn0 (ytb yw271) 100000 yc271 [yk271_0, yk271_1] = true := by decide +kernel
theorem yx271_0 : y_runC y_hn0 (ytb yw271) 100000 yc271 [yk271_0, yk271_1] yk271_0 = true := by decide +kernel
theorem yx271_1 : y_runC y_hn0 (ytb yw271) 100000 yc271 [yk271_0, yk271_1] yk271_1 = true := by decide +kernel
-- RailwayHouseModel.station: 84 steps
theorem ye272 : y_runE y_hn0 (ytb yw272) 100000 yc272 [] = true := by decide +kernel
-- RailwayHouseModel.stopAt: 260 steps
theorem ye273 : y_runE y_hn0 (ytb yw273) 100000 yc273 [] = true := by decide +kernel
-- RailwayHouseModel.sync: 812 steps
theorem ye274 : y_runE y_hn0 (ytb yw274) 100000 yc274 [yk274_0] = true := by decide +kernel
theorem yx274_0 : y_runC y_hn0 (ytb yw274) 100000 yc274 [yk274_0] yk274_0 = true := by decide +kernel
-- RailwayHouseModel.takeFromDisk: 411 steps
theorem ye275 : y_runE y_hn0 (ytb yw275) 100000 yc275 [] = true := by decide +kernel
-- RailwayHouseModel.takeLayout: 255 steps
theorem ye276 : y_runE y_hn0 (ytb yw276) 100000 yc276 [yk276_0, yk276_1, yk276_2] = true := by decide +kernel
theorem yx276_0 : y_runC y_hn0 (ytb yw276) 100000 yc276 [yk276_0, yk276_1, yk276_2] yk276_0 = true := by decide +kernel
theorem yx276_1 : y_runC y_hn0 (ytb yw276) 100000 yc276 [yk276_0, yk276_1, yk276_2] yk276_1 = true := by decide +kernel
theorem yx276_2 : y_runC y_hn0 (ytb yw276) 100000 yc276 [yk276_0, yk276_1, yk276_2] yk276_2 = true := by decide +kernel
-- RailwayHouseModel.takeSemicolon: 65 steps
theorem ye277 : y_runE y_hn0 (ytb yw277) 100000 yc277 [] = true := by decide +kernel
-- RailwayHouseModel.turn: 73 steps
theorem ye278 : y_runE y_hn0 (ytb yw278) 100000 yc278 [] = true := by decide +kernel
-- RailwayHouseModel.used: 127 steps
theorem ye279 : y_runE y_hn0 (ytb yw279) 100000 yc279 [] = true := by decide +kernel
-- RailwayHouseModel.usedIn: 617 steps
theorem ye280 : y_runE y_hn0 (ytb yw280) 100000 yc280 [yk280_0, yk280_1] = true := by decide +kernel
theorem yx280_0 : y_runC y_hn0 (ytb yw280) 100000 yc280 [yk280_0, yk280_1] yk280_0 = true := by decide +kernel
theorem yx280_1 : y_runC y_hn0 (ytb yw280) 100000 yc280 [yk280_0, yk280_1] yk280_1 = true := by decide +kernel
-- RailwayHouseModel.vote: 429 steps
theorem ye281 : y_runE y_hn0 (ytb yw281) 100000 yc281 [yk281_0, yk281_1, yk281_2] = true := by decide +kernel
theorem yx281_0 : y_runC y_hn0 (ytb yw281) 100000 yc281 [yk281_0, yk281_1, yk281_2] yk281_0 = true := by decide +kernel
theorem yx281_1 : y_runC y_hn0 (ytb yw281) 100000 yc281 [yk281_0, yk281_1, yk281_2] yk281_1 = true := by decide +kernel
theorem yx281_2 : y_runC y_hn0 (ytb yw281) 100000 yc281 [yk281_0, yk281_1, yk281_2] yk281_2 = true := by decide +kernel
-- RailwayHouseModel.voters: 53 steps
theorem ye282 : y_runE y_hn0 (ytb yw282) 100000 yc282 [yk282_0] = true := by decide +kernel
theorem yx282_0 : y_runC y_hn0 (ytb yw282) 100000 yc282 [yk282_0] yk282_0 = true := by decide +kernel
