-- RailwayHouseModel.takeLayout: 6623 steps
theorem ye357 : y_runE y_hn0 (ytb yw357) 100000 yc357 [yk357_0, yk357_1, yk357_2, yk357_3] = true := by decide +kernel
theorem yx357_0 : y_runC y_hn0 (ytb yw357) 100000 yc357 [yk357_0, yk357_1, yk357_2, yk357_3] yk357_0 = true := by decide +kernel
theorem yx357_1 : y_runC y_hn0 (ytb yw357) 100000 yc357 [yk357_0, yk357_1, yk357_2, yk357_3] yk357_1 = true := by decide +kernel
theorem yx357_2 : y_runC y_hn0 (ytb yw357) 100000 yc357 [yk357_0, yk357_1, yk357_2, yk357_3] yk357_2 = true := by decide +kernel
theorem yx357_3 : y_runC y_hn0 (ytb yw357) 100000 yc357 [yk357_0, yk357_1, yk357_2, yk357_3] yk357_3 = true := by decide +kernel
-- RailwayHouseModel.takeLayout: 6623 steps
theorem ye358 : y_runE y_hn0 (ytb yw358) 100000 yc358 [yk358_0, yk358_1, yk358_2, yk358_3] = true := by decide +kernel
theorem yx358_0 : y_runC y_hn0 (ytb yw358) 100000 yc358 [yk358_0, yk358_1, yk358_2, yk358_3] yk358_0 = true := by decide +kernel
theorem yx358_1 : y_runC y_hn0 (ytb yw358) 100000 yc358 [yk358_0, yk358_1, yk358_2, yk358_3] yk358_1 = true := by decide +kernel
theorem yx358_2 : y_runC y_hn0 (ytb yw358) 100000 yc358 [yk358_0, yk358_1, yk358_2, yk358_3] yk358_2 = true := by decide +kernel
theorem yx358_3 : y_runC y_hn0 (ytb yw358) 100000 yc358 [yk358_0, yk358_1, yk358_2, yk358_3] yk358_3 = true := by decide +kernel
