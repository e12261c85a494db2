-- RailwayHouseModel.takeLayout: 6623 steps
theorem ye356 : y_runE y_hn0 (ytb yw356) 100000 yc356 [yk356_0, yk356_1, yk356_2, yk356_3] = true := by decide +kernel
theorem yx356_0 : y_runC y_hn0 (ytb yw356) 100000 yc356 [yk356_0, yk356_1, yk356_2, yk356_3] yk356_0 = true := by decide +kernel
theorem yx356_1 : y_runC y_hn0 (ytb yw356) 100000 yc356 [yk356_0, yk356_1, yk356_2, yk356_3] yk356_1 = true := by decide +kernel
theorem yx356_2 : y_runC y_hn0 (ytb yw356) 100000 yc356 [yk356_0, yk356_1, yk356_2, yk356_3] yk356_2 = true := by decide +kernel
theorem yx356_3 : y_runC y_hn0 (ytb yw356) 100000 yc356 [yk356_0, yk356_1, yk356_2, yk356_3] yk356_3 = true := by decide +kernel
-- RailwayHouseModel.takeLayout: 6623 steps
theorem ye357 : y_runE y_hn0 (ytb yw357) 100000 yc357 [yk357_0, yk357_1, yk357_2, yk357_3] = true := by decide +kernel
theorem yx357_0 : y_runC y_hn0 (ytb yw357) 100000 yc357 [yk357_0, yk357_1, yk357_2, yk357_3] yk357_0 = true := by decide +kernel
theorem yx357_1 : y_runC y_hn0 (ytb yw357) 100000 yc357 [yk357_0, yk357_1, yk357_2, yk357_3] yk357_1 = true := by decide +kernel
theorem yx357_2 : y_runC y_hn0 (ytb yw357) 100000 yc357 [yk357_0, yk357_1, yk357_2, yk357_3] yk357_2 = true := by decide +kernel
theorem yx357_3 : y_runC y_hn0 (ytb yw357) 100000 yc357 [yk357_0, yk357_1, yk357_2, yk357_3] yk357_3 = true := by decide +kernel
