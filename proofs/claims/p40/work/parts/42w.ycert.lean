-- RailwayHouseModel.takeLayout: 6623 steps
theorem ye348 : y_runE y_hn0 (ytb yw348) 100000 yc348 [yk348_0, yk348_1, yk348_2, yk348_3] = true := by decide +kernel
theorem yx348_0 : y_runC y_hn0 (ytb yw348) 100000 yc348 [yk348_0, yk348_1, yk348_2, yk348_3] yk348_0 = true := by decide +kernel
theorem yx348_1 : y_runC y_hn0 (ytb yw348) 100000 yc348 [yk348_0, yk348_1, yk348_2, yk348_3] yk348_1 = true := by decide +kernel
theorem yx348_2 : y_runC y_hn0 (ytb yw348) 100000 yc348 [yk348_0, yk348_1, yk348_2, yk348_3] yk348_2 = true := by decide +kernel
theorem yx348_3 : y_runC y_hn0 (ytb yw348) 100000 yc348 [yk348_0, yk348_1, yk348_2, yk348_3] yk348_3 = true := by decide +kernel
-- RailwayHouseModel.takeLayout: 6623 steps
theorem ye349 : y_runE y_hn0 (ytb yw349) 100000 yc349 [yk349_0, yk349_1, yk349_2, yk349_3] = true := by decide +kernel
theorem yx349_0 : y_runC y_hn0 (ytb yw349) 100000 yc349 [yk349_0, yk349_1, yk349_2, yk349_3] yk349_0 = true := by decide +kernel
theorem yx349_1 : y_runC y_hn0 (ytb yw349) 100000 yc349 [yk349_0, yk349_1, yk349_2, yk349_3] yk349_1 = true := by decide +kernel
theorem yx349_2 : y_runC y_hn0 (ytb yw349) 100000 yc349 [yk349_0, yk349_1, yk349_2, yk349_3] yk349_2 = true := by decide +kernel
theorem yx349_3 : y_runC y_hn0 (ytb yw349) 100000 yc349 [yk349_0, yk349_1, yk349_2, yk349_3] yk349_3 = true := by decide +kernel
