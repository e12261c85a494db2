-- RailwayHouseModel.takeLayout: 1357 steps
theorem ye336 : y_runE y_hn0 (ytb yw336) 100000 yc336 [yk336_0, yk336_1, yk336_2, yk336_3] = true := by decide +kernel
theorem yx336_0 : y_runC y_hn0 (ytb yw336) 100000 yc336 [yk336_0, yk336_1, yk336_2, yk336_3] yk336_0 = true := by decide +kernel
theorem yx336_1 : y_runC y_hn0 (ytb yw336) 100000 yc336 [yk336_0, yk336_1, yk336_2, yk336_3] yk336_1 = true := by decide +kernel
theorem yx336_2 : y_runC y_hn0 (ytb yw336) 100000 yc336 [yk336_0, yk336_1, yk336_2, yk336_3] yk336_2 = true := by decide +kernel
theorem yx336_3 : y_runC y_hn0 (ytb yw336) 100000 yc336 [yk336_0, yk336_1, yk336_2, yk336_3] yk336_3 = true := by decide +kernel
-- RailwayHouseModel.takeLayout: 1357 steps
theorem ye337 : y_runE y_hn0 (ytb yw337) 100000 yc337 [yk337_0, yk337_1, yk337_2, yk337_3] = true := by decide +kernel
theorem yx337_0 : y_runC y_hn0 (ytb yw337) 100000 yc337 [yk337_0, yk337_1, yk337_2, yk337_3] yk337_0 = true := by decide +kernel
theorem yx337_1 : y_runC y_hn0 (ytb yw337) 100000 yc337 [yk337_0, yk337_1, yk337_2, yk337_3] yk337_1 = true := by decide +kernel
theorem yx337_2 : y_runC y_hn0 (ytb yw337) 100000 yc337 [yk337_0, yk337_1, yk337_2, yk337_3] yk337_2 = true := by decide +kernel
theorem yx337_3 : y_runC y_hn0 (ytb yw337) 100000 yc337 [yk337_0, yk337_1, yk337_2, yk337_3] yk337_3 = true := by decide +kernel
-- RailwayHouseModel.takeLayout: 6621 steps
theorem ye338 : y_runE y_hn0 (ytb yw338) 100000 yc338 [yk338_0, yk338_1, yk338_2, yk338_3] = true := by decide +kernel
theorem yx338_0 : y_runC y_hn0 (ytb yw338) 100000 yc338 [yk338_0, yk338_1, yk338_2, yk338_3] yk338_0 = true := by decide +kernel
theorem yx338_1 : y_runC y_hn0 (ytb yw338) 100000 yc338 [yk338_0, yk338_1, yk338_2, yk338_3] yk338_1 = true := by decide +kernel
theorem yx338_2 : y_runC y_hn0 (ytb yw338) 100000 yc338 [yk338_0, yk338_1, yk338_2, yk338_3] yk338_2 = true := by decide +kernel
theorem yx338_3 : y_runC y_hn0 (ytb yw338) 100000 yc338 [yk338_0, yk338_1, yk338_2, yk338_3] yk338_3 = true := by decide +kernel
-- RailwayHouseModel.takeLayout: 6623 steps
theorem ye339 : y_runE y_hn0 (ytb yw339) 100000 yc339 [yk339_0, yk339_1, yk339_2, yk339_3] = true := by decide +kernel
theorem yx339_0 : y_runC y_hn0 (ytb yw339) 100000 yc339 [yk339_0, yk339_1, yk339_2, yk339_3] yk339_0 = true := by decide +kernel
theorem yx339_1 : y_runC y_hn0 (ytb yw339) 100000 yc339 [yk339_0, yk339_1, yk339_2, yk339_3] yk339_1 = true := by decide +kernel
theorem yx339_2 : y_runC y_hn0 (ytb yw339) 100000 yc339 [yk339_0, yk339_1, yk339_2, yk339_3] yk339_2 = true := by decide +kernel
theorem yx339_3 : y_runC y_hn0 (ytb yw339) 100000 yc339 [yk339_0, yk339_1, yk339_2, yk339_3] yk339_3 = true := by decide +kernel
