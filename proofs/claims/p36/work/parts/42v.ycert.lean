-- RailwayHouseModel.takeLayout: 6623 steps
theorem ye347 : y_runE y_hn0 (ytb yw347) 100000 yc347 [yk347_0, yk347_1, yk347_2, yk347_3] = true := by decide +kernel
theorem yx347_0 : y_runC y_hn0 (ytb yw347) 100000 yc347 [yk347_0, yk347_1, yk347_2, yk347_3] yk347_0 = true := by decide +kernel
theorem yx347_1 : y_runC y_hn0 (ytb yw347) 100000 yc347 [yk347_0, yk347_1, yk347_2, yk347_3] yk347_1 = true := by decide +kernel
theorem yx347_2 : y_runC y_hn0 (ytb yw347) 100000 yc347 [yk347_0, yk347_1, yk347_2, yk347_3] yk347_2 = true := by decide +kernel
theorem yx347_3 : y_runC y_hn0 (ytb yw347) 100000 yc347 [yk347_0, yk347_1, yk347_2, yk347_3] yk347_3 = true := by decide +kernel
-- RailwayHouseModel.takeLayout: 6623 steps
theorem ye348 : y_runE y_hn0 (ytb yw348) 100000 yc348 [yk348_0, yk348_1, yk348_2, yk348_3] = true := by decide +kernel
theorem yx348_0 : y_runC y_hn0 (ytb yw348) 100000 yc348 [yk348_0, yk348_1, yk348_2, yk348_3] yk348_0 = true := by decide +kernel
theorem yx348_1 : y_runC y_hn0 (ytb yw348) 100000 yc348 [yk348_0, yk348_1, yk348_2, yk348_3] yk348_1 = true := by decide +kernel
theorem yx348_2 : y_runC y_hn0 (ytb yw348) 100000 yc348 [yk348_0, yk348_1, yk348_2, yk348_3] yk348_2 = true := by decide +kernel
theorem yx348_3 : y_runC y_hn0 (ytb yw348) 100000 yc348 [yk348_0, yk348_1, yk348_2, yk348_3] yk348_3 = true := by decide +kernel
