-- RailwayHouseModel.takeLayout: 1357 steps
theorem ye327 : y_runE y_hn0 (ytb yw327) 100000 yc327 [yk327_0, yk327_1, yk327_2, yk327_3] = true := by decide +kernel
theorem yx327_0 : y_runC y_hn0 (ytb yw327) 100000 yc327 [yk327_0, yk327_1, yk327_2, yk327_3] yk327_0 = true := by decide +kernel
theorem yx327_1 : y_runC y_hn0 (ytb yw327) 100000 yc327 [yk327_0, yk327_1, yk327_2, yk327_3] yk327_1 = true := by decide +kernel
theorem yx327_2 : y_runC y_hn0 (ytb yw327) 100000 yc327 [yk327_0, yk327_1, yk327_2, yk327_3] yk327_2 = true := by decide +kernel
theorem yx327_3 : y_runC y_hn0 (ytb yw327) 100000 yc327 [yk327_0, yk327_1, yk327_2, yk327_3] yk327_3 = true := by decide +kernel
-- RailwayHouseModel.takeLayout: 1357 steps
theorem ye328 : y_runE y_hn0 (ytb yw328) 100000 yc328 [yk328_0, yk328_1, yk328_2, yk328_3] = true := by decide +kernel
theorem yx328_0 : y_runC y_hn0 (ytb yw328) 100000 yc328 [yk328_0, yk328_1, yk328_2, yk328_3] yk328_0 = true := by decide +kernel
theorem yx328_1 : y_runC y_hn0 (ytb yw328) 100000 yc328 [yk328_0, yk328_1, yk328_2, yk328_3] yk328_1 = true := by decide +kernel
theorem yx328_2 : y_runC y_hn0 (ytb yw328) 100000 yc328 [yk328_0, yk328_1, yk328_2, yk328_3] yk328_2 = true := by decide +kernel
theorem yx328_3 : y_runC y_hn0 (ytb yw328) 100000 yc328 [yk328_0, yk328_1, yk328_2, yk328_3] yk328_3 = true := by decide +kernel
-- RailwayHouseModel.takeLayout: 1355 steps
theorem ye329 : y_runE y_hn0 (ytb yw329) 100000 yc329 [yk329_0, yk329_1, yk329_2, yk329_3] = true := by decide +kernel
theorem yx329_0 : y_runC y_hn0 (ytb yw329) 100000 yc329 [yk329_0, yk329_1, yk329_2, yk329_3] yk329_0 = true := by decide +kernel
theorem yx329_1 : y_runC y_hn0 (ytb yw329) 100000 yc329 [yk329_0, yk329_1, yk329_2, yk329_3] yk329_1 = true := by decide +kernel
theorem yx329_2 : y_runC y_hn0 (ytb yw329) 100000 yc329 [yk329_0, yk329_1, yk329_2, yk329_3] yk329_2 = true := by decide +kernel
theorem yx329_3 : y_runC y_hn0 (ytb yw329) 100000 yc329 [yk329_0, yk329_1, yk329_2, yk329_3] yk329_3 = true := by decide +kernel
-- RailwayHouseModel.takeLayout: 1357 steps
theorem ye330 : y_runE y_hn0 (ytb yw330) 100000 yc330 [yk330_0, yk330_1, yk330_2, yk330_3] = true := by decide +kernel
theorem yx330_0 : y_runC y_hn0 (ytb yw330) 100000 yc330 [yk330_0, yk330_1, yk330_2, yk330_3] yk330_0 = true := by decide +kernel
theorem yx330_1 : y_runC y_hn0 (ytb yw330) 100000 yc330 [yk330_0, yk330_1, yk330_2, yk330_3] yk330_1 = true := by decide +kernel
theorem yx330_2 : y_runC y_hn0 (ytb yw330) 100000 yc330 [yk330_0, yk330_1, yk330_2, yk330_3] yk330_2 = true := by decide +kernel
theorem yx330_3 : y_runC y_hn0 (ytb yw330) 100000 yc330 [yk330_0, yk330_1, yk330_2, yk330_3] yk330_3 = true := by decide +kernel
-- RailwayHouseModel.takeLayout: 1357 steps
theorem ye331 : y_runE y_hn0 (ytb yw331) 100000 yc331 [yk331_0, yk331_1, yk331_2, yk331_3] = true := by decide +kernel
theorem yx331_0 : y_runC y_hn0 (ytb yw331) 100000 yc331 [yk331_0, yk331_1, yk331_2, yk331_3] yk331_0 = true := by decide +kernel
theorem yx331_1 : y_runC y_hn0 (ytb yw331) 100000 yc331 [yk331_0, yk331_1, yk331_2, yk331_3] yk331_1 = true := by decide +kernel
theorem yx331_2 : y_runC y_hn0 (ytb yw331) 100000 yc331 [yk331_0, yk331_1, yk331_2, yk331_3] yk331_2 = true := by decide +kernel
theorem yx331_3 : y_runC y_hn0 (ytb yw331) 100000 yc331 [yk331_0, yk331_1, yk331_2, yk331_3] yk331_3 = true := by decide +kernel
-- RailwayHouseModel.takeLayout: 1357 steps
theorem ye332 : y_runE y_hn0 (ytb yw332) 100000 yc332 [yk332_0, yk332_1, yk332_2, yk332_3] = true := by decide +kernel
theorem yx332_0 : y_runC y_hn0 (ytb yw332) 100000 yc332 [yk332_0, yk332_1, yk332_2, yk332_3] yk332_0 = true := by decide +kernel
theorem yx332_1 : y_runC y_hn0 (ytb yw332) 100000 yc332 [yk332_0, yk332_1, yk332_2, yk332_3] yk332_1 = true := by decide +kernel
theorem yx332_2 : y_runC y_hn0 (ytb yw332) 100000 yc332 [yk332_0, yk332_1, yk332_2, yk332_3] yk332_2 = true := by decide +kernel
theorem yx332_3 : y_runC y_hn0 (ytb yw332) 100000 yc332 [yk332_0, yk332_1, yk332_2, yk332_3] yk332_3 = true := by decide +kernel
-- RailwayHouseModel.takeLayout: 1357 steps
theorem ye333 : y_runE y_hn0 (ytb yw333) 100000 yc333 [yk333_0, yk333_1, yk333_2, yk333_3] = true := by decide +kernel
theorem yx333_0 : y_runC y_hn0 (ytb yw333) 100000 yc333 [yk333_0, yk333_1, yk333_2, yk333_3] yk333_0 = true := by decide +kernel
theorem yx333_1 : y_runC y_hn0 (ytb yw333) 100000 yc333 [yk333_0, yk333_1, yk333_2, yk333_3] yk333_1 = true := by decide +kernel
theorem yx333_2 : y_runC y_hn0 (ytb yw333) 100000 yc333 [yk333_0, yk333_1, yk333_2, yk333_3] yk333_2 = true := by decide +kernel
theorem yx333_3 : y_runC y_hn0 (ytb yw333) 100000 yc333 [yk333_0, yk333_1, yk333_2, yk333_3] yk333_3 = true := by decide +kernel
-- RailwayHouseModel.takeLayout: 1357 steps
theorem ye334 : y_runE y_hn0 (ytb yw334) 100000 yc334 [yk334_0, yk334_1, yk334_2, yk334_3] = true := by decide +kernel
theorem yx334_0 : y_runC y_hn0 (ytb yw334) 100000 yc334 [yk334_0, yk334_1, yk334_2, yk334_3] yk334_0 = true := by decide +kernel
theorem yx334_1 : y_runC y_hn0 (ytb yw334) 100000 yc334 [yk334_0, yk334_1, yk334_2, yk334_3] yk334_1 = true := by decide +kernel
theorem yx334_2 : y_runC y_hn0 (ytb yw334) 100000 yc334 [yk334_0, yk334_1, yk334_2, yk334_3] yk334_2 = true := by decide +kernel
theorem yx334_3 : y_runC y_hn0 (ytb yw334) 100000 yc334 [yk334_0, yk334_1, yk334_2, yk334_3] yk334_3 = true := by decide +kernel
-- RailwayHouseModel.takeLayout: 1357 steps
theorem ye335 : y_runE y_hn0 (ytb yw335) 100000 yc335 [yk335_0, yk335_1, yk335_2, yk335_3] = true := by decide +kernel
theorem yx335_0 : y_runC y_hn0 (ytb yw335) 100000 yc335 [yk335_0, yk335_1, yk335_2, yk335_3] yk335_0 = true := by decide +kernel
theorem yx335_1 : y_runC y_hn0 (ytb yw335) 100000 yc335 [yk335_0, yk335_1, yk335_2, yk335_3] yk335_1 = true := by decide +kernel
theorem yx335_2 : y_runC y_hn0 (ytb yw335) 100000 yc335 [yk335_0, yk335_1, yk335_2, yk335_3] yk335_2 = true := by decide +kernel
theorem yx335_3 : y_runC y_hn0 (ytb yw335) 100000 yc335 [yk335_0, yk335_1, yk335_2, yk335_3] yk335_3 = true := by decide +kernel
