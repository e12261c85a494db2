-- RailwayHouseModel.takeLayout: 6623 steps
theorem ye342 : y_runE y_hn0 (ytb yw342) 100000 yc342 [yk342_0, yk342_1, yk342_2, yk342_3] = true := by decide +kernel
theorem yx342_0 : y_runC y_hn0 (ytb yw342) 100000 yc342 [yk342_0, yk342_1, yk342_2, yk342_3] yk342_0 = true := by decide +kernel
theorem yx342_1 : y_runC y_hn0 (ytb yw342) 100000 yc342 [yk342_0, yk342_1, yk342_2, yk342_3] yk342_1 = true := by decide +kernel
theorem yx342_2 : y_runC y_hn0 (ytb yw342) 100000 yc342 [yk342_0, yk342_1, yk342_2, yk342_3] yk342_2 = true := by decide +kernel
theorem yx342_3 : y_runC y_hn0 (ytb yw342) 100000 yc342 [yk342_0, yk342_1, yk342_2, yk342_3] yk342_3 = true := by decide +kernel
-- RailwayHouseModel.takeLayout: 6623 steps
theorem ye343 : y_runE y_hn0 (ytb yw343) 100000 yc343 [yk343_0, yk343_1, yk343_2, yk343_3] = true := by decide +kernel
theorem yx343_0 : y_runC y_hn0 (ytb yw343) 100000 yc343 [yk343_0, yk343_1, yk343_2, yk343_3] yk343_0 = true := by decide +kernel
theorem yx343_1 : y_runC y_hn0 (ytb yw343) 100000 yc343 [yk343_0, yk343_1, yk343_2, yk343_3] yk343_1 = true := by decide +kernel
theorem yx343_2 : y_runC y_hn0 (ytb yw343) 100000 yc343 [yk343_0, yk343_1, yk343_2, yk343_3] yk343_2 = true := by decide +kernel
theorem yx343_3 : y_runC y_hn0 (ytb yw343) 100000 yc343 [yk343_0, yk343_1, yk343_2, yk343_3] yk343_3 = true := by decide +kernel
