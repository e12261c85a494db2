-- RailwayHouseModel.takeLayout: 6623 steps
theorem ye335 : y_runE y_hn0 (ytb yw335) 100000 yc335 [yk335_0, yk335_1, yk335_2, yk335_3] = true := by decide +kernel
theorem yx335_0 : y_runC y_hn0 (ytb yw335) 100000 yc335 [yk335_0, yk335_1, yk335_2, yk335_3] yk335_0 = true := by decide +kernel
theorem yx335_1 : y_runC y_hn0 (ytb yw335) 100000 yc335 [yk335_0, yk335_1, yk335_2, yk335_3] yk335_1 = true := by decide +kernel
theorem yx335_2 : y_runC y_hn0 (ytb yw335) 100000 yc335 [yk335_0, yk335_1, yk335_2, yk335_3] yk335_2 = true := by decide +kernel
theorem yx335_3 : y_runC y_hn0 (ytb yw335) 100000 yc335 [yk335_0, yk335_1, yk335_2, yk335_3] yk335_3 = true := by decide +kernel
-- RailwayHouseModel.takeLayout: 6623 steps
theorem ye336 : y_runE y_hn0 (ytb yw336) 100000 yc336 [yk336_0, yk336_1, yk336_2, yk336_3] = true := by decide +kernel
theorem yx336_0 : y_runC y_hn0 (ytb yw336) 100000 yc336 [yk336_0, yk336_1, yk336_2, yk336_3] yk336_0 = true := by decide +kernel
theorem yx336_1 : y_runC y_hn0 (ytb yw336) 100000 yc336 [yk336_0, yk336_1, yk336_2, yk336_3] yk336_1 = true := by decide +kernel
theorem yx336_2 : y_runC y_hn0 (ytb yw336) 100000 yc336 [yk336_0, yk336_1, yk336_2, yk336_3] yk336_2 = true := by decide +kernel
theorem yx336_3 : y_runC y_hn0 (ytb yw336) 100000 yc336 [yk336_0, yk336_1, yk336_2, yk336_3] yk336_3 = true := by decide +kernel
