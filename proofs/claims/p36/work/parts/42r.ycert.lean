-- RailwayHouseModel.takeLayout: 6623 steps
theorem ye334 : y_runE y_hn0 (ytb yw334) 100000 yc334 [yk334_0, yk334_1, yk334_2, yk334_3] = true := by decide +kernel
theorem yx334_0 : y_runC y_hn0 (ytb yw334) 100000 yc334 [yk334_0, yk334_1, yk334_2, yk334_3] yk334_0 = true := by decide +kernel
theorem yx334_1 : y_runC y_hn0 (ytb yw334) 100000 yc334 [yk334_0, yk334_1, yk334_2, yk334_3] yk334_1 = true := by decide +kernel
theorem yx334_2 : y_runC y_hn0 (ytb yw334) 100000 yc334 [yk334_0, yk334_1, yk334_2, yk334_3] yk334_2 = true := by decide +kernel
theorem yx334_3 : y_runC y_hn0 (ytb yw334) 100000 yc334 [yk334_0, yk334_1, yk334_2, yk334_3] yk334_3 = true := by decide +kernel
-- RailwayHouseModel.takeLayout: 6623 steps
theorem ye335 : y_runE y_hn0 (ytb yw335) 100000 yc335 [yk335_0, yk335_1, yk335_2, yk335_3] = true := by decide +kernel
theorem yx335_0 : y_runC y_hn0 (ytb yw335) 100000 yc335 [yk335_0, yk335_1, yk335_2, yk335_3] yk335_0 = true := by decide +kernel
theorem yx335_1 : y_runC y_hn0 (ytb yw335) 100000 yc335 [yk335_0, yk335_1, yk335_2, yk335_3] yk335_1 = true := by decide +kernel
theorem yx335_2 : y_runC y_hn0 (ytb yw335) 100000 yc335 [yk335_0, yk335_1, yk335_2, yk335_3] yk335_2 = true := by decide +kernel
theorem yx335_3 : y_runC y_hn0 (ytb yw335) 100000 yc335 [yk335_0, yk335_1, yk335_2, yk335_3] yk335_3 = true := by decide +kernel
