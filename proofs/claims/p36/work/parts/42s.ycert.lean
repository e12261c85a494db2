-- RailwayHouseModel.takeLayout: 6623 steps
theorem ye341 : y_runE y_hn0 (ytb yw341) 100000 yc341 [yk341_0, yk341_1, yk341_2, yk341_3] = true := by decide +kernel
theorem yx341_0 : y_runC y_hn0 (ytb yw341) 100000 yc341 [yk341_0, yk341_1, yk341_2, yk341_3] yk341_0 = true := by decide +kernel
theorem yx341_1 : y_runC y_hn0 (ytb yw341) 100000 yc341 [yk341_0, yk341_1, yk341_2, yk341_3] yk341_1 = true := by decide +kernel
theorem yx341_2 : y_runC y_hn0 (ytb yw341) 100000 yc341 [yk341_0, yk341_1, yk341_2, yk341_3] yk341_2 = true := by decide +kernel
theorem yx341_3 : y_runC y_hn0 (ytb yw341) 100000 yc341 [yk341_0, yk341_1, yk341_2, yk341_3] yk341_3 = true := by decide +kernel
-- RailwayHouseModel.takeLayout: 6623 steps
theorem ye342 : y_runE y_hn0 (ytb yw342) 100000 yc342 [yk342_0, yk342_1, yk342_2, yk342_3] = true := by decide +kernel
theorem yx342_0 : y_runC y_hn0 (ytb yw342) 100000 yc342 [yk342_0, yk342_1, yk342_2, yk342_3] yk342_0 = true := by decide +kernel
theorem yx342_1 : y_runC y_hn0 (ytb yw342) 100000 yc342 [yk342_0, yk342_1, yk342_2, yk342_3] yk342_1 = true := by decide +kernel
theorem yx342_2 : y_runC y_hn0 (ytb yw342) 100000 yc342 [yk342_0, yk342_1, yk342_2, yk342_3] yk342_2 = true := by decide +kernel
theorem yx342_3 : y_runC y_hn0 (ytb yw342) 100000 yc342 [yk342_0, yk342_1, yk342_2, yk342_3] yk342_3 = true := by decide +kernel
