-- RailwayHouseModel.takeLayout: 6623 steps
theorem ye345 : y_runE y_hn0 (ytb yw345) 100000 yc345 [yk345_0, yk345_1, yk345_2, yk345_3] = true := by decide +kernel
theorem yx345_0 : y_runC y_hn0 (ytb yw345) 100000 yc345 [yk345_0, yk345_1, yk345_2, yk345_3] yk345_0 = true := by decide +kernel
theorem yx345_1 : y_runC y_hn0 (ytb yw345) 100000 yc345 [yk345_0, yk345_1, yk345_2, yk345_3] yk345_1 = true := by decide +kernel
theorem yx345_2 : y_runC y_hn0 (ytb yw345) 100000 yc345 [yk345_0, yk345_1, yk345_2, yk345_3] yk345_2 = true := by decide +kernel
theorem yx345_3 : y_runC y_hn0 (ytb yw345) 100000 yc345 [yk345_0, yk345_1, yk345_2, yk345_3] yk345_3 = true := by decide +kernel
-- RailwayHouseModel.takeLayout: 6623 steps
theorem ye346 : y_runE y_hn0 (ytb yw346) 100000 yc346 [yk346_0, yk346_1, yk346_2, yk346_3] = true := by decide +kernel
theorem yx346_0 : y_runC y_hn0 (ytb yw346) 100000 yc346 [yk346_0, yk346_1, yk346_2, yk346_3] yk346_0 = true := by decide +kernel
theorem yx346_1 : y_runC y_hn0 (ytb yw346) 100000 yc346 [yk346_0, yk346_1, yk346_2, yk346_3] yk346_1 = true := by decide +kernel
theorem yx346_2 : y_runC y_hn0 (ytb yw346) 100000 yc346 [yk346_0, yk346_1, yk346_2, yk346_3] yk346_2 = true := by decide +kernel
theorem yx346_3 : y_runC y_hn0 (ytb yw346) 100000 yc346 [yk346_0, yk346_1, yk346_2, yk346_3] yk346_3 = true := by decide +kernel
