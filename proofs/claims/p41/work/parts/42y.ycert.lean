-- RailwayHouseModel.takeLayout: 6623 steps
theorem ye352 : y_runE y_hn0 (ytb yw352) 100000 yc352 [yk352_0, yk352_1, yk352_2, yk352_3] = true := by decide +kernel
theorem yx352_0 : y_runC y_hn0 (ytb yw352) 100000 yc352 [yk352_0, yk352_1, yk352_2, yk352_3] yk352_0 = true := by decide +kernel
theorem yx352_1 : y_runC y_hn0 (ytb yw352) 100000 yc352 [yk352_0, yk352_1, yk352_2, yk352_3] yk352_1 = true := by decide +kernel
theorem yx352_2 : y_runC y_hn0 (ytb yw352) 100000 yc352 [yk352_0, yk352_1, yk352_2, yk352_3] yk352_2 = true := by decide +kernel
theorem yx352_3 : y_runC y_hn0 (ytb yw352) 100000 yc352 [yk352_0, yk352_1, yk352_2, yk352_3] yk352_3 = true := by decide +kernel
-- RailwayHouseModel.takeLayout: 6623 steps
theorem ye353 : y_runE y_hn0 (ytb yw353) 100000 yc353 [yk353_0, yk353_1, yk353_2, yk353_3] = true := by decide +kernel
theorem yx353_0 : y_runC y_hn0 (ytb yw353) 100000 yc353 [yk353_0, yk353_1, yk353_2, yk353_3] yk353_0 = true := by decide +kernel
theorem yx353_1 : y_runC y_hn0 (ytb yw353) 100000 yc353 [yk353_0, yk353_1, yk353_2, yk353_3] yk353_1 = true := by decide +kernel
theorem yx353_2 : y_runC y_hn0 (ytb yw353) 100000 yc353 [yk353_0, yk353_1, yk353_2, yk353_3] yk353_2 = true := by decide +kernel
theorem yx353_3 : y_runC y_hn0 (ytb yw353) 100000 yc353 [yk353_0, yk353_1, yk353_2, yk353_3] yk353_3 = true := by decide +kernel
