-- RailwayHouseModel.takeLayout: 6623 steps
theorem ye351 : y_runE y_hn0 (ytb yw351) 100000 yc351 [yk351_0, yk351_1, yk351_2, yk351_3] = true := by decide +kernel
theorem yx351_0 : y_runC y_hn0 (ytb yw351) 100000 yc351 [yk351_0, yk351_1, yk351_2, yk351_3] yk351_0 = true := by decide +kernel
theorem yx351_1 : y_runC y_hn0 (ytb yw351) 100000 yc351 [yk351_0, yk351_1, yk351_2, yk351_3] yk351_1 = true := by decide +kernel
theorem yx351_2 : y_runC y_hn0 (ytb yw351) 100000 yc351 [yk351_0, yk351_1, yk351_2, yk351_3] yk351_2 = true := by decide +kernel
theorem yx351_3 : y_runC y_hn0 (ytb yw351) 100000 yc351 [yk351_0, yk351_1, yk351_2, yk351_3] yk351_3 = true := by decide +kernel
-- RailwayHouseModel.takeLayout: 6623 steps
theorem ye352 : y_runE y_hn0 (ytb yw352) 100000 yc352 [yk352_0, yk352_1, yk352_2, yk352_3] = true := by decide +kernel
theorem yx352_0 : y_runC y_hn0 (ytb yw352) 100000 yc352 [yk352_0, yk352_1, yk352_2, yk352_3] yk352_0 = true := by decide +kernel
theorem yx352_1 : y_runC y_hn0 (ytb yw352) 100000 yc352 [yk352_0, yk352_1, yk352_2, yk352_3] yk352_1 = true := by decide +kernel
theorem yx352_2 : y_runC y_hn0 (ytb yw352) 100000 yc352 [yk352_0, yk352_1, yk352_2, yk352_3] yk352_2 = true := by decide +kernel
theorem yx352_3 : y_runC y_hn0 (ytb yw352) 100000 yc352 [yk352_0, yk352_1, yk352_2, yk352_3] yk352_3 = true := by decide +kernel
