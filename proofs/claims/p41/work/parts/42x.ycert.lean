-- RailwayHouseModel.takeLayout: 6623 steps
theorem ye350 : y_runE y_hn0 (ytb yw350) 100000 yc350 [yk350_0, yk350_1, yk350_2, yk350_3] = true := by decide +kernel
theorem yx350_0 : y_runC y_hn0 (ytb yw350) 100000 yc350 [yk350_0, yk350_1, yk350_2, yk350_3] yk350_0 = true := by decide +kernel
theorem yx350_1 : y_runC y_hn0 (ytb yw350) 100000 yc350 [yk350_0, yk350_1, yk350_2, yk350_3] yk350_1 = true := by decide +kernel
theorem yx350_2 : y_runC y_hn0 (ytb yw350) 100000 yc350 [yk350_0, yk350_1, yk350_2, yk350_3] yk350_2 = true := by decide +kernel
theorem yx350_3 : y_runC y_hn0 (ytb yw350) 100000 yc350 [yk350_0, yk350_1, yk350_2, yk350_3] yk350_3 = true := by decide +kernel
-- RailwayHouseModel.takeLayout: 6623 steps
theorem ye351 : y_runE y_hn0 (ytb yw351) 100000 yc351 [yk351_0, yk351_1, yk351_2, yk351_3] = true := by decide +kernel
theorem yx351_0 : y_runC y_hn0 (ytb yw351) 100000 yc351 [yk351_0, yk351_1, yk351_2, yk351_3] yk351_0 = true := by decide +kernel
theorem yx351_1 : y_runC y_hn0 (ytb yw351) 100000 yc351 [yk351_0, yk351_1, yk351_2, yk351_3] yk351_1 = true := by decide +kernel
theorem yx351_2 : y_runC y_hn0 (ytb yw351) 100000 yc351 [yk351_0, yk351_1, yk351_2, yk351_3] yk351_2 = true := by decide +kernel
theorem yx351_3 : y_runC y_hn0 (ytb yw351) 100000 yc351 [yk351_0, yk351_1, yk351_2, yk351_3] yk351_3 = true := by decide +kernel
