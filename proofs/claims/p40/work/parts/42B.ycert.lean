-- RailwayHouseModel.takeLayout: 6623 steps
theorem ye358 : y_runE y_hn0 (ytb yw358) 100000 yc358 [yk358_0, yk358_1, yk358_2, yk358_3] = true := by decide +kernel
theorem yx358_0 : y_runC y_hn0 (ytb yw358) 100000 yc358 [yk358_0, yk358_1, yk358_2, yk358_3] yk358_0 = true := by decide +kernel
theorem yx358_1 : y_runC y_hn0 (ytb yw358) 100000 yc358 [yk358_0, yk358_1, yk358_2, yk358_3] yk358_1 = true := by decide +kernel
theorem yx358_2 : y_runC y_hn0 (ytb yw358) 100000 yc358 [yk358_0, yk358_1, yk358_2, yk358_3] yk358_2 = true := by decide +kernel
theorem yx358_3 : y_runC y_hn0 (ytb yw358) 100000 yc358 [yk358_0, yk358_1, yk358_2, yk358_3] yk358_3 = true := by decide +kernel
-- RailwayHouseModel.takeLayout: 6623 steps
theorem ye359 : y_runE y_hn0 (ytb yw359) 100000 yc359 [yk359_0, yk359_1, yk359_2, yk359_3] = true := by decide +kernel
theorem yx359_0 : y_runC y_hn0 (ytb yw359) 100000 yc359 [yk359_0, yk359_1, yk359_2, yk359_3] yk359_0 = true := by decide +kernel
theorem yx359_1 : y_runC y_hn0 (ytb yw359) 100000 yc359 [yk359_0, yk359_1, yk359_2, yk359_3] yk359_1 = true := by decide +kernel
theorem yx359_2 : y_runC y_hn0 (ytb yw359) 100000 yc359 [yk359_0, yk359_1, yk359_2, yk359_3] yk359_2 = true := by decide +kernel
theorem yx359_3 : y_runC y_hn0 (ytb yw359) 100000 yc359 [yk359_0, yk359_1, yk359_2, yk359_3] yk359_3 = true := by decide +kernel
