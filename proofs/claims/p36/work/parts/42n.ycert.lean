-- RailwayHouseModel.readLayout: 2095 steps
theorem ye283 : y_runE (y_hnL yhN) (ytb yw283) 100000 yc283 [yk283_0, yk283_1, yk283_2, yk283_3] = true := by decide +kernel
theorem yx283_0 : y_runC (y_hnL yhN) (ytb yw283) 100000 yc283 [yk283_0, yk283_1, yk283_2, yk283_3] yk283_0 = true := by decide +kernel
theorem yx283_1 : y_runC (y_hnL yhN) (ytb yw283) 100000 yc283 [yk283_0, yk283_1, yk283_2, yk283_3] yk283_1 = true := by decide +kernel
theorem yx283_2 : y_runC (y_hnL yhN) (ytb yw283) 100000 yc283 [yk283_0, yk283_1, yk283_2, yk283_3] yk283_2 = true := by decide +kernel
theorem yx283_3 : y_runC (y_hnL yhN) (ytb yw283) 100000 yc283 [yk283_0, yk283_1, yk283_2, yk283_3] yk283_3 = true := by decide +kernel
-- RailwayHouseModel.readLayout: 2095 steps
theorem ye284 : y_runE (y_hnL yhN) (ytb yw284) 100000 yc284 [yk284_0, yk284_1, yk284_2, yk284_3] = true := by decide +kernel
theorem yx284_0 : y_runC (y_hnL yhN) (ytb yw284) 100000 yc284 [yk284_0, yk284_1, yk284_2, yk284_3] yk284_0 = true := by decide +kernel
theorem yx284_1 : y_runC (y_hnL yhN) (ytb yw284) 100000 yc284 [yk284_0, yk284_1, yk284_2, yk284_3] yk284_1 = true := by decide +kernel
theorem yx284_2 : y_runC (y_hnL yhN) (ytb yw284) 100000 yc284 [yk284_0, yk284_1, yk284_2, yk284_3] yk284_2 = true := by decide +kernel
theorem yx284_3 : y_runC (y_hnL yhN) (ytb yw284) 100000 yc284 [yk284_0, yk284_1, yk284_2, yk284_3] yk284_3 = true := by decide +kernel
-- RailwayHouseModel.readLayout: 2095 steps
theorem ye285 : y_runE (y_hnL yhN) (ytb yw285) 100000 yc285 [yk285_0, yk285_1, yk285_2, yk285_3] = true := by decide +kernel
theorem yx285_0 : y_runC (y_hnL yhN) (ytb yw285) 100000 yc285 [yk285_0, yk285_1, yk285_2, yk285_3] yk285_0 = true := by decide +kernel
theorem yx285_1 : y_runC (y_hnL yhN) (ytb yw285) 100000 yc285 [yk285_0, yk285_1, yk285_2, yk285_3] yk285_1 = true := by decide +kernel
theorem yx285_2 : y_runC (y_hnL yhN) (ytb yw285) 100000 yc285 [yk285_0, yk285_1, yk285_2, yk285_3] yk285_2 = true := by decide +kernel
theorem yx285_3 : y_runC (y_hnL yhN) (ytb yw285) 100000 yc285 [yk285_0, yk285_1, yk285_2, yk285_3] yk285_3 = true := by decide +kernel
-- RailwayHouseModel.readLayout: 2095 steps
theorem ye286 : y_runE (y_hnL yhN) (ytb yw286) 100000 yc286 [yk286_0, yk286_1, yk286_2, yk286_3] = true := by decide +kernel
theorem yx286_0 : y_runC (y_hnL yhN) (ytb yw286) 100000 yc286 [yk286_0, yk286_1, yk286_2, yk286_3] yk286_0 = true := by decide +kernel
theorem yx286_1 : y_runC (y_hnL yhN) (ytb yw286) 100000 yc286 [yk286_0, yk286_1, yk286_2, yk286_3] yk286_1 = true := by decide +kernel
theorem yx286_2 : y_runC (y_hnL yhN) (ytb yw286) 100000 yc286 [yk286_0, yk286_1, yk286_2, yk286_3] yk286_2 = true := by decide +kernel
theorem yx286_3 : y_runC (y_hnL yhN) (ytb yw286) 100000 yc286 [yk286_0, yk286_1, yk286_2, yk286_3] yk286_3 = true := by decide +kernel
-- RailwayHouseModel.readLayout: 2095 steps
theorem ye287 : y_runE (y_hnL yhN) (ytb yw287) 100000 yc287 [yk287_0, yk287_1, yk287_2, yk287_3] = true := by decide +kernel
theorem yx287_0 : y_runC (y_hnL yhN) (ytb yw287) 100000 yc287 [yk287_0, yk287_1, yk287_2, yk287_3] yk287_0 = true := by decide +kernel
theorem yx287_1 : y_runC (y_hnL yhN) (ytb yw287) 100000 yc287 [yk287_0, yk287_1, yk287_2, yk287_3] yk287_1 = true := by decide +kernel
theorem yx287_2 : y_runC (y_hnL yhN) (ytb yw287) 100000 yc287 [yk287_0, yk287_1, yk287_2, yk287_3] yk287_2 = true := by decide +kernel
theorem yx287_3 : y_runC (y_hnL yhN) (ytb yw287) 100000 yc287 [yk287_0, yk287_1, yk287_2, yk287_3] yk287_3 = true := by decide +kernel
-- RailwayHouseModel.readLayout: 2095 steps
theorem ye288 : y_runE (y_hnL yhN) (ytb yw288) 100000 yc288 [yk288_0, yk288_1, yk288_2, yk288_3] = true := by decide +kernel
theorem yx288_0 : y_runC (y_hnL yhN) (ytb yw288) 100000 yc288 [yk288_0, yk288_1, yk288_2, yk288_3] yk288_0 = true := by decide +kernel
theorem yx288_1 : y_runC (y_hnL yhN) (ytb yw288) 100000 yc288 [yk288_0, yk288_1, yk288_2, yk288_3] yk288_1 = true := by decide +kernel
theorem yx288_2 : y_runC (y_hnL yhN) (ytb yw288) 100000 yc288 [yk288_0, yk288_1, yk288_2, yk288_3] yk288_2 = true := by decide +kernel
theorem yx288_3 : y_runC (y_hnL yhN) (ytb yw288) 100000 yc288 [yk288_0, yk288_1, yk288_2, yk288_3] yk288_3 = true := by decide +kernel
