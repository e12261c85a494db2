-- RailwayHouseModel.start: 79 steps
theorem ye264 : y_runE y_hn0 (ytb yw264) 100000 yc264 [yk264_0, yk264_1] = true := by decide +kernel
theorem yx264_0 : y_runC y_hn0 (ytb yw264) 100000 yc264 [yk264_0, yk264_1] yk264_0 = true := by decide +kernel
theorem yx264_1 : y_runC y_hn0 (ytb yw264) 100000 yc264 [yk264_0, yk264_1] yk264_1 = true := by decide +kernel
-- RailwayHouseModel.station: 84 steps
theorem ye265 : y_runE y_hn0 (ytb yw265) 100000 yc265 [] = true := by decide +kernel
-- RailwayHouseModel.stopAt: 260 steps
theorem ye266 : y_runE y_hn0 (ytb yw266) 100000 yc266 [] = true := by decide +kernel
-- RailwayHouseModel.sync: 812 steps
theorem ye267 : y_runE y_hn0 (ytb yw267) 100000 yc267 [yk267_0] = true := by decide +kernel
theorem yx267_0 : y_runC y_hn0 (ytb yw267) 100000 yc267 [yk267_0] yk267_0 = true := by decide +kernel
-- RailwayHouseModel.takeFromDisk: 411 steps
theorem ye268 : y_runE y_hn0 (ytb yw268) 100000 yc268 [] = true := by decide +kernel
-- RailwayHouseModel.takeLayout: 255 steps
theorem ye269 : y_runE y_hn0 (ytb yw269) 100000 yc269 [yk269_0, yk269_1, yk269_2] = true := by decide +kernel
theorem yx269_0 : y_runC y_hn0 (ytb yw269) 100000 yc269 [yk269_0, yk269_1, yk269_2] yk269_0 = true := by decide +kernel
theorem yx269_1 : y_runC y_hn0 (ytb yw269) 100000 yc269 [yk269_0, yk269_1, yk269_2] yk269_1 = true := by decide +kernel
theorem yx269_2 : y_runC y_hn0 (ytb yw269) 100000 yc269 [yk269_0, yk269_1, yk269_2] yk269_2 = true := by decide +kernel
-- RailwayHouseModel.turn: 73 steps
theorem ye270 : y_runE y_hn0 (ytb yw270) 100000 yc270 [] = true := by decide +kernel
-- RailwayHouseModel.used: 127 steps
theorem ye271 : y_runE y_hn0 (ytb yw271) 100000 yc271 [] = true := by decide +kernel
-- RailwayHouseModel.usedIn: 617 steps
theorem ye272 : y_runE y_hn0 (ytb yw272) 100000 yc272 [yk272_0, yk272_1] = true := by decide +kernel
theorem yx272_0 : y_runC y_hn0 (ytb yw272) 100000 yc272 [yk272_0, yk272_1] yk272_0 = true := by decide +kernel
theorem yx272_1 : y_runC y_hn0 (ytb yw272) 100000 yc272 [yk272_0, yk272_1] yk272_1 = true := by decide +kernel
-- RailwayHouseModel.vote: 429 steps
theorem ye273 : y_runE y_hn0 (ytb yw273) 100000 yc273 [yk273_0, yk273_1, yk273_2] = true := by decide +kernel
theorem yx273_0 : y_runC y_hn0 (ytb yw273) 100000 yc273 [yk273_0, yk273_1, yk273_2] yk273_0 = true := by decide +kernel
theorem yx273_1 : y_runC y_hn0 (ytb yw273) 100000 yc273 [yk273_0, yk273_1, yk273_2] yk273_1 = true := by decide +kernel
theorem yx273_2 : y_runC y_hn0 (ytb yw273) 100000 yc273 [yk273_0, yk273_1, yk273_2] yk273_2 = true := by decide +kernel
-- RailwayHouseModel.voters: 53 steps
theorem ye274 : y_runE y_hn0 (ytb yw274) 100000 yc274 [yk274_0] = true := by decide +kernel
theorem yx274_0 : y_runC y_hn0 (ytb yw274) 100000 yc274 [yk274_0] yk274_0 = true := by decide +kernel
