-- RailwayHouseModel.takeLayout: 6623 steps
theorem ye343 : y_runE y_hn0 (ytb yw343) 100000 yc343 [yk343_0, yk343_1, yk343_2, yk343_3] = true := by decide +kernel
theorem yx343_0 : y_runC y_hn0 (ytb yw343) 100000 yc343 [yk343_0, yk343_1, yk343_2, yk343_3] yk343_0 = true := by decide +kernel
theorem yx343_1 : y_runC y_hn0 (ytb yw343) 100000 yc343 [yk343_0, yk343_1, yk343_2, yk343_3] yk343_1 = true := by decide +kernel
theorem yx343_2 : y_runC y_hn0 (ytb yw343) 100000 yc343 [yk343_0, yk343_1, yk343_2, yk343_3] yk343_2 = true := by decide +kernel
theorem yx343_3 : y_runC y_hn0 (ytb yw343) 100000 yc343 [yk343_0, yk343_1, yk343_2, yk343_3] yk343_3 = true := by decide +kernel
-- RailwayHouseModel.takeLayout: 6623 steps
theorem ye344 : y_runE y_hn0 (ytb yw344) 100000 yc344 [yk344_0, yk344_1, yk344_2, yk344_3] = true := by decide +kernel
theorem yx344_0 : y_runC y_hn0 (ytb yw344) 100000 yc344 [yk344_0, yk344_1, yk344_2, yk344_3] yk344_0 = true := by decide +kernel
theorem yx344_1 : y_runC y_hn0 (ytb yw344) 100000 yc344 [yk344_0, yk344_1, yk344_2, yk344_3] yk344_1 = true := by decide +kernel
theorem yx344_2 : y_runC y_hn0 (ytb yw344) 100000 yc344 [yk344_0, yk344_1, yk344_2, yk344_3] yk344_2 = true := by decide +kernel
theorem yx344_3 : y_runC y_hn0 (ytb yw344) 100000 yc344 [yk344_0, yk344_1, yk344_2, yk344_3] yk344_3 = true := by decide +kernel
