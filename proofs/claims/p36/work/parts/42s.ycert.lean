-- RailwayHouseModel.takeLayout: 6623 steps
theorem ye336 : y_runE y_hn0 (ytb yw336) 100000 yc336 [yk336_0, yk336_1, yk336_2, yk336_3] = true := by decide +kernel
theorem yx336_0 : y_runC y_hn0 (ytb yw336) 100000 yc336 [yk336_0, yk336_1, yk336_2, yk336_3] yk336_0 = true := by decide +kernel
theorem yx336_1 : y_runC y_hn0 (ytb yw336) 100000 yc336 [yk336_0, yk336_1, yk336_2, yk336_3] yk336_1 = true := by decide +kernel
theorem yx336_2 : y_runC y_hn0 (ytb yw336) 100000 yc336 [yk336_0, yk336_1, yk336_2, yk336_3] yk336_2 = true := by decide +kernel
theorem yx336_3 : y_runC y_hn0 (ytb yw336) 100000 yc336 [yk336_0, yk336_1, yk336_2, yk336_3] yk336_3 = true := by decide +kernel
-- RailwayHouseModel.takeLayout: 6623 steps
theorem ye337 : y_runE y_hn0 (ytb yw337) 100000 yc337 [yk337_0, yk337_1, yk337_2, yk337_3] = true := by decide +kernel
theorem yx337_0 : y_runC y_hn0 (ytb yw337) 100000 yc337 [yk337_0, yk337_1, yk337_2, yk337_3] yk337_0 = true := by decide +kernel
theorem yx337_1 : y_runC y_hn0 (ytb yw337) 100000 yc337 [yk337_0, yk337_1, yk337_2, yk337_3] yk337_1 = true := by decide +kernel
theorem yx337_2 : y_runC y_hn0 (ytb yw337) 100000 yc337 [yk337_0, yk337_1, yk337_2, yk337_3] yk337_2 = true := by decide +kernel
theorem yx337_3 : y_runC y_hn0 (ytb yw337) 100000 yc337 [yk337_0, yk337_1, yk337_2, yk337_3] yk337_3 = true := by decide +kernel
