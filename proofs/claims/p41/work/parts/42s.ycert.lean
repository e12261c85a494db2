-- RailwayHouseModel.takeLayout: 6623 steps
theorem ye340 : y_runE y_hn0 (ytb yw340) 100000 yc340 [yk340_0, yk340_1, yk340_2, yk340_3] = true := by decide +kernel
theorem yx340_0 : y_runC y_hn0 (ytb yw340) 100000 yc340 [yk340_0, yk340_1, yk340_2, yk340_3] yk340_0 = true := by decide +kernel
theorem yx340_1 : y_runC y_hn0 (ytb yw340) 100000 yc340 [yk340_0, yk340_1, yk340_2, yk340_3] yk340_1 = true := by decide +kernel
theorem yx340_2 : y_runC y_hn0 (ytb yw340) 100000 yc340 [yk340_0, yk340_1, yk340_2, yk340_3] yk340_2 = true := by decide +kernel
theorem yx340_3 : y_runC y_hn0 (ytb yw340) 100000 yc340 [yk340_0, yk340_1, yk340_2, yk340_3] yk340_3 = true := by decide +kernel
-- RailwayHouseModel.takeLayout: 6623 steps
theorem ye341 : y_runE y_hn0 (ytb yw341) 100000 yc341 [yk341_0, yk341_1, yk341_2, yk341_3] = true := by decide +kernel
theorem yx341_0 : y_runC y_hn0 (ytb yw341) 100000 yc341 [yk341_0, yk341_1, yk341_2, yk341_3] yk341_0 = true := by decide +kernel
theorem yx341_1 : y_runC y_hn0 (ytb yw341) 100000 yc341 [yk341_0, yk341_1, yk341_2, yk341_3] yk341_1 = true := by decide +kernel
theorem yx341_2 : y_runC y_hn0 (ytb yw341) 100000 yc341 [yk341_0, yk341_1, yk341_2, yk341_3] yk341_2 = true := by decide +kernel
theorem yx341_3 : y_runC y_hn0 (ytb yw341) 100000 yc341 [yk341_0, yk341_1, yk341_2, yk341_3] yk341_3 = true := by decide +kernel
