-- RailwayHouseModel.takeLayout: 1357 steps
theorem ye331 : y_runE y_hn0 (ytb yw331) 100000 yc331 [yk331_0, yk331_1, yk331_2, yk331_3] = true := by decide +kernel
theorem yx331_0 : y_runC y_hn0 (ytb yw331) 100000 yc331 [yk331_0, yk331_1, yk331_2, yk331_3] yk331_0 = true := by decide +kernel
theorem yx331_1 : y_runC y_hn0 (ytb yw331) 100000 yc331 [yk331_0, yk331_1, yk331_2, yk331_3] yk331_1 = true := by decide +kernel
theorem yx331_2 : y_runC y_hn0 (ytb yw331) 100000 yc331 [yk331_0, yk331_1, yk331_2, yk331_3] yk331_2 = true := by decide +kernel
theorem yx331_3 : y_runC y_hn0 (ytb yw331) 100000 yc331 [yk331_0, yk331_1, yk331_2, yk331_3] yk331_3 = true := by decide +kernel
-- RailwayHouseModel.takeLayout: 1357 steps
theorem ye332 : y_runE y_hn0 (ytb yw332) 100000 yc332 [yk332_0, yk332_1, yk332_2, yk332_3] = true := by decide +kernel
theorem yx332_0 : y_runC y_hn0 (ytb yw332) 100000 yc332 [yk332_0, yk332_1, yk332_2, yk332_3] yk332_0 = true := by decide +kernel
theorem yx332_1 : y_runC y_hn0 (ytb yw332) 100000 yc332 [yk332_0, yk332_1, yk332_2, yk332_3] yk332_1 = true := by decide +kernel
theorem yx332_2 : y_runC y_hn0 (ytb yw332) 100000 yc332 [yk332_0, yk332_1, yk332_2, yk332_3] yk332_2 = true := by decide +kernel
theorem yx332_3 : y_runC y_hn0 (ytb yw332) 100000 yc332 [yk332_0, yk332_1, yk332_2, yk332_3] yk332_3 = true := by decide +kernel
-- RailwayHouseModel.takeLayout: 6621 steps
theorem ye333 : y_runE y_hn0 (ytb yw333) 100000 yc333 [yk333_0, yk333_1, yk333_2, yk333_3] = true := by decide +kernel
theorem yx333_0 : y_runC y_hn0 (ytb yw333) 100000 yc333 [yk333_0, yk333_1, yk333_2, yk333_3] yk333_0 = true := by decide +kernel
theorem yx333_1 : y_runC y_hn0 (ytb yw333) 100000 yc333 [yk333_0, yk333_1, yk333_2, yk333_3] yk333_1 = true := by decide +kernel
theorem yx333_2 : y_runC y_hn0 (ytb yw333) 100000 yc333 [yk333_0, yk333_1, yk333_2, yk333_3] yk333_2 = true := by decide +kernel
theorem yx333_3 : y_runC y_hn0 (ytb yw333) 100000 yc333 [yk333_0, yk333_1, yk333_2, yk333_3] yk333_3 = true := by decide +kernel
-- RailwayHouseModel.takeLayout: 6623 steps
theorem ye334 : y_runE y_hn0 (ytb yw334) 100000 yc334 [yk334_0, yk334_1, yk334_2, yk334_3] = true := by decide +kernel
theorem yx334_0 : y_runC y_hn0 (ytb yw334) 100000 yc334 [yk334_0, yk334_1, yk334_2, yk334_3] yk334_0 = true := by decide +kernel
theorem yx334_1 : y_runC y_hn0 (ytb yw334) 100000 yc334 [yk334_0, yk334_1, yk334_2, yk334_3] yk334_1 = true := by decide +kernel
theorem yx334_2 : y_runC y_hn0 (ytb yw334) 100000 yc334 [yk334_0, yk334_1, yk334_2, yk334_3] yk334_2 = true := by decide +kernel
theorem yx334_3 : y_runC y_hn0 (ytb yw334) 100000 yc334 [yk334_0, yk334_1, yk334_2, yk334_3] yk334_3 = true := by decide +kernel
