-- RailwayHouseModel.takeLayout: 6623 steps
theorem ye359 : y_runE y_hn0 (ytb yw359) 100000 yc359 [yk359_0, yk359_1, yk359_2, yk359_3] = true := by decide +kernel
theorem yx359_0 : y_runC y_hn0 (ytb yw359) 100000 yc359 [yk359_0, yk359_1, yk359_2, yk359_3] yk359_0 = true := by decide +kernel
theorem yx359_1 : y_runC y_hn0 (ytb yw359) 100000 yc359 [yk359_0, yk359_1, yk359_2, yk359_3] yk359_1 = true := by decide +kernel
theorem yx359_2 : y_runC y_hn0 (ytb yw359) 100000 yc359 [yk359_0, yk359_1, yk359_2, yk359_3] yk359_2 = true := by decide +kernel
theorem yx359_3 : y_runC y_hn0 (ytb yw359) 100000 yc359 [yk359_0, yk359_1, yk359_2, yk359_3] yk359_3 = true := by decide +kernel
-- RailwayHouseModel.takeLayout: 6623 steps
theorem ye360 : y_runE y_hn0 (ytb yw360) 100000 yc360 [yk360_0, yk360_1, yk360_2, yk360_3] = true := by decide +kernel
theorem yx360_0 : y_runC y_hn0 (ytb yw360) 100000 yc360 [yk360_0, yk360_1, yk360_2, yk360_3] yk360_0 = true := by decide +kernel
theorem yx360_1 : y_runC y_hn0 (ytb yw360) 100000 yc360 [yk360_0, yk360_1, yk360_2, yk360_3] yk360_1 = true := by decide +kernel
theorem yx360_2 : y_runC y_hn0 (ytb yw360) 100000 yc360 [yk360_0, yk360_1, yk360_2, yk360_3] yk360_2 = true := by decide +kernel
theorem yx360_3 : y_runC y_hn0 (ytb yw360) 100000 yc360 [yk360_0, yk360_1, yk360_2, yk360_3] yk360_3 = true := by decide +kernel
