-- RailwayHouseModel.takeLayout: 6623 steps
theorem ye344 : y_runE y_hn0 (ytb yw344) 100000 yc344 [yk344_0, yk344_1, yk344_2, yk344_3] = true := by decide +kernel
theorem yx344_0 : y_runC y_hn0 (ytb yw344) 100000 yc344 [yk344_0, yk344_1, yk344_2, yk344_3] yk344_0 = true := by decide +kernel
theorem yx344_1 : y_runC y_hn0 (ytb yw344) 100000 yc344 [yk344_0, yk344_1, yk344_2, yk344_3] yk344_1 = true := by decide +kernel
theorem yx344_2 : y_runC y_hn0 (ytb yw344) 100000 yc344 [yk344_0, yk344_1, yk344_2, yk344_3] yk344_2 = true := by decide +kernel
theorem yx344_3 : y_runC y_hn0 (ytb yw344) 100000 yc344 [yk344_0, yk344_1, yk344_2, yk344_3] yk344_3 = true := by decide +kernel
-- RailwayHouseModel.takeLayout: 6623 steps
theorem ye345 : y_runE y_hn0 (ytb yw345) 100000 yc345 [yk345_0, yk345_1, yk345_2, yk345_3] = true := by decide +kernel
theorem yx345_0 : y_runC y_hn0 (ytb yw345) 100000 yc345 [yk345_0, yk345_1, yk345_2, yk345_3] yk345_0 = true := by decide +kernel
theorem yx345_1 : y_runC y_hn0 (ytb yw345) 100000 yc345 [yk345_0, yk345_1, yk345_2, yk345_3] yk345_1 = true := by decide +kernel
theorem yx345_2 : y_runC y_hn0 (ytb yw345) 100000 yc345 [yk345_0, yk345_1, yk345_2, yk345_3] yk345_2 = true := by decide +kernel
theorem yx345_3 : y_runC y_hn0 (ytb yw345) 100000 yc345 [yk345_0, yk345_1, yk345_2, yk345_3] yk345_3 = true := by decide +kernel
