-- RailwayHouseModel.takeLayout: 6623 steps
theorem ye349 : y_runE y_hn0 (ytb yw349) 100000 yc349 [yk349_0, yk349_1, yk349_2, yk349_3] = true := by decide +kernel
theorem yx349_0 : y_runC y_hn0 (ytb yw349) 100000 yc349 [yk349_0, yk349_1, yk349_2, yk349_3] yk349_0 = true := by decide +kernel
theorem yx349_1 : y_runC y_hn0 (ytb yw349) 100000 yc349 [yk349_0, yk349_1, yk349_2, yk349_3] yk349_1 = true := by decide +kernel
theorem yx349_2 : y_runC y_hn0 (ytb yw349) 100000 yc349 [yk349_0, yk349_1, yk349_2, yk349_3] yk349_2 = true := by decide +kernel
theorem yx349_3 : y_runC y_hn0 (ytb yw349) 100000 yc349 [yk349_0, yk349_1, yk349_2, yk349_3] yk349_3 = true := by decide +kernel
-- RailwayHouseModel.takeLayout: 6623 steps
theorem ye350 : y_runE y_hn0 (ytb yw350) 100000 yc350 [yk350_0, yk350_1, yk350_2, yk350_3] = true := by decide +kernel
theorem yx350_0 : y_runC y_hn0 (ytb yw350) 100000 yc350 [yk350_0, yk350_1, yk350_2, yk350_3] yk350_0 = true := by decide +kernel
theorem yx350_1 : y_runC y_hn0 (ytb yw350) 100000 yc350 [yk350_0, yk350_1, yk350_2, yk350_3] yk350_1 = true := by decide +kernel
theorem yx350_2 : y_runC y_hn0 (ytb yw350) 100000 yc350 [yk350_0, yk350_1, yk350_2, yk350_3] yk350_2 = true := by decide +kernel
theorem yx350_3 : y_runC y_hn0 (ytb yw350) 100000 yc350 [yk350_0, yk350_1, yk350_2, yk350_3] yk350_3 = true := by decide +kernel
