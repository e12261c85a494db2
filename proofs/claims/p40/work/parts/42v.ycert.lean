-- RailwayHouseModel.takeLayout: 6623 steps
theorem ye346 : y_runE y_hn0 (ytb yw346) 100000 yc346 [yk346_0, yk346_1, yk346_2, yk346_3] = true := by decide +kernel
theorem yx346_0 : y_runC y_hn0 (ytb yw346) 100000 yc346 [yk346_0, yk346_1, yk346_2, yk346_3] yk346_0 = true := by decide +kernel
theorem yx346_1 : y_runC y_hn0 (ytb yw346) 100000 yc346 [yk346_0, yk346_1, yk346_2, yk346_3] yk346_1 = true := by decide +kernel
theorem yx346_2 : y_runC y_hn0 (ytb yw346) 100000 yc346 [yk346_0, yk346_1, yk346_2, yk346_3] yk346_2 = true := by decide +kernel
theorem yx346_3 : y_runC y_hn0 (ytb yw346) 100000 yc346 [yk346_0, yk346_1, yk346_2, yk346_3] yk346_3 = true := by decide +kernel
-- RailwayHouseModel.takeLayout: 6623 steps
theorem ye347 : y_runE y_hn0 (ytb yw347) 100000 yc347 [yk347_0, yk347_1, yk347_2, yk347_3] = true := by decide +kernel
theorem yx347_0 : y_runC y_hn0 (ytb yw347) 100000 yc347 [yk347_0, yk347_1, yk347_2, yk347_3] yk347_0 = true := by decide +kernel
theorem yx347_1 : y_runC y_hn0 (ytb yw347) 100000 yc347 [yk347_0, yk347_1, yk347_2, yk347_3] yk347_1 = true := by decide +kernel
theorem yx347_2 : y_runC y_hn0 (ytb yw347) 100000 yc347 [yk347_0, yk347_1, yk347_2, yk347_3] yk347_2 = true := by decide +kernel
theorem yx347_3 : y_runC y_hn0 (ytb yw347) 100000 yc347 [yk347_0, yk347_1, yk347_2, yk347_3] yk347_3 = true := by decide +kernel
