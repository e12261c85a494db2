-- RailwayHouseModel.takeLayout: 1357 steps
theorem ye337 : y_runE y_hn0 (ytb yw337) 100000 yc337 [yk337_0, yk337_1, yk337_2, yk337_3] = true := by decide +kernel
theorem yx337_0 : y_runC y_hn0 (ytb yw337) 100000 yc337 [yk337_0, yk337_1, yk337_2, yk337_3] yk337_0 = true := by decide +kernel
theorem yx337_1 : y_runC y_hn0 (ytb yw337) 100000 yc337 [yk337_0, yk337_1, yk337_2, yk337_3] yk337_1 = true := by decide +kernel
theorem yx337_2 : y_runC y_hn0 (ytb yw337) 100000 yc337 [yk337_0, yk337_1, yk337_2, yk337_3] yk337_2 = true := by decide +kernel
theorem yx337_3 : y_runC y_hn0 (ytb yw337) 100000 yc337 [yk337_0, yk337_1, yk337_2, yk337_3] yk337_3 = true := by decide +kernel
-- RailwayHouseModel.takeLayout: 1357 steps
theorem ye338 : y_runE y_hn0 (ytb yw338) 100000 yc338 [yk338_0, yk338_1, yk338_2, yk338_3] = true := by decide +kernel
theorem yx338_0 : y_runC y_hn0 (ytb yw338) 100000 yc338 [yk338_0, yk338_1, yk338_2, yk338_3] yk338_0 = true := by decide +kernel
theorem yx338_1 : y_runC y_hn0 (ytb yw338) 100000 yc338 [yk338_0, yk338_1, yk338_2, yk338_3] yk338_1 = true := by decide +kernel
theorem yx338_2 : y_runC y_hn0 (ytb yw338) 100000 yc338 [yk338_0, yk338_1, yk338_2, yk338_3] yk338_2 = true := by decide +kernel
theorem yx338_3 : y_runC y_hn0 (ytb yw338) 100000 yc338 [yk338_0, yk338_1, yk338_2, yk338_3] yk338_3 = true := by decide +kernel
-- RailwayHouseModel.takeLayout: 6621 steps
theorem ye339 : y_runE y_hn0 (ytb yw339) 100000 yc339 [yk339_0, yk339_1, yk339_2, yk339_3] = true := by decide +kernel
theorem yx339_0 : y_runC y_hn0 (ytb yw339) 100000 yc339 [yk339_0, yk339_1, yk339_2, yk339_3] yk339_0 = true := by decide +kernel
theorem yx339_1 : y_runC y_hn0 (ytb yw339) 100000 yc339 [yk339_0, yk339_1, yk339_2, yk339_3] yk339_1 = true := by decide +kernel
theorem yx339_2 : y_runC y_hn0 (ytb yw339) 100000 yc339 [yk339_0, yk339_1, yk339_2, yk339_3] yk339_2 = true := by decide +kernel
theorem yx339_3 : y_runC y_hn0 (ytb yw339) 100000 yc339 [yk339_0, yk339_1, yk339_2, yk339_3] yk339_3 = true := by decide +kernel
-- RailwayHouseModel.takeLayout: 6623 steps
theorem ye340 : y_runE y_hn0 (ytb yw340) 100000 yc340 [yk340_0, yk340_1, yk340_2, yk340_3] = true := by decide +kernel
theorem yx340_0 : y_runC y_hn0 (ytb yw340) 100000 yc340 [yk340_0, yk340_1, yk340_2, yk340_3] yk340_0 = true := by decide +kernel
theorem yx340_1 : y_runC y_hn0 (ytb yw340) 100000 yc340 [yk340_0, yk340_1, yk340_2, yk340_3] yk340_1 = true := by decide +kernel
theorem yx340_2 : y_runC y_hn0 (ytb yw340) 100000 yc340 [yk340_0, yk340_1, yk340_2, yk340_3] yk340_2 = true := by decide +kernel
theorem yx340_3 : y_runC y_hn0 (ytb yw340) 100000 yc340 [yk340_0, yk340_1, yk340_2, yk340_3] yk340_3 = true := by decide +kernel
