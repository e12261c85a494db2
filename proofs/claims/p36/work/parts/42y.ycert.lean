-- RailwayHouseModel.takeLayout: 6623 steps
theorem ye353 : y_runE y_hn0 (ytb yw353) 100000 yc353 [yk353_0, yk353_1, yk353_2, yk353_3] = true := by decide +kernel
theorem yx353_0 : y_runC y_hn0 (ytb yw353) 100000 yc353 [yk353_0, yk353_1, yk353_2, yk353_3] yk353_0 = true := by decide +kernel
theorem yx353_1 : y_runC y_hn0 (ytb yw353) 100000 yc353 [yk353_0, yk353_1, yk353_2, yk353_3] yk353_1 = true := by decide +kernel
theorem yx353_2 : y_runC y_hn0 (ytb yw353) 100000 yc353 [yk353_0, yk353_1, yk353_2, yk353_3] yk353_2 = true := by decide +kernel
theorem yx353_3 : y_runC y_hn0 (ytb yw353) 100000 yc353 [yk353_0, yk353_1, yk353_2, yk353_3] yk353_3 = true := by decide +kernel
-- RailwayHouseModel.takeLayout: 6623 steps
theorem ye354 : y_runE y_hn0 (ytb yw354) 100000 yc354 [yk354_0, yk354_1, yk354_2, yk354_3] = true := by decide +kernel
theorem yx354_0 : y_runC y_hn0 (ytb yw354) 100000 yc354 [yk354_0, yk354_1, yk354_2, yk354_3] yk354_0 = true := by decide +kernel
theorem yx354_1 : y_runC y_hn0 (ytb yw354) 100000 yc354 [yk354_0, yk354_1, yk354_2, yk354_3] yk354_1 = true := by decide +kernel
theorem yx354_2 : y_runC y_hn0 (ytb yw354) 100000 yc354 [yk354_0, yk354_1, yk354_2, yk354_3] yk354_2 = true := by decide +kernel
theorem yx354_3 : y_runC y_hn0 (ytb yw354) 100000 yc354 [yk354_0, yk354_1, yk354_2, yk354_3] yk354_3 = true := by decide +kernel
