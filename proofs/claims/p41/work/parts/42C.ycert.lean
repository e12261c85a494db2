-- RailwayHouseModel.takeLayout: 6623 steps
theorem ye360 : y_runE y_hn0 (ytb yw360) 100000 yc360 [yk360_0, yk360_1, yk360_2, yk360_3] = true := by decide +kernel
theorem yx360_0 : y_runC y_hn0 (ytb yw360) 100000 yc360 [yk360_0, yk360_1, yk360_2, yk360_3] yk360_0 = true := by decide +kernel
theorem yx360_1 : y_runC y_hn0 (ytb yw360) 100000 yc360 [yk360_0, yk360_1, yk360_2, yk360_3] yk360_1 = true := by decide +kernel
theorem yx360_2 : y_runC y_hn0 (ytb yw360) 100000 yc360 [yk360_0, yk360_1, yk360_2, yk360_3] yk360_2 = true := by decide +kernel
theorem yx360_3 : y_runC y_hn0 (ytb yw360) 100000 yc360 [yk360_0, yk360_1, yk360_2, yk360_3] yk360_3 = true := by decide +kernel
-- RailwayHouseModel.takeLayout: 6623 steps
theorem ye361 : y_runE y_hn0 (ytb yw361) 100000 yc361 [yk361_0, yk361_1, yk361_2, yk361_3] = true := by decide +kernel
theorem yx361_0 : y_runC y_hn0 (ytb yw361) 100000 yc361 [yk361_0, yk361_1, yk361_2, yk361_3] yk361_0 = true := by decide +kernel
theorem yx361_1 : y_runC y_hn0 (ytb yw361) 100000 yc361 [yk361_0, yk361_1, yk361_2, yk361_3] yk361_1 = true := by decide +kernel
theorem yx361_2 : y_runC y_hn0 (ytb yw361) 100000 yc361 [yk361_0, yk361_1, yk361_2, yk361_3] yk361_2 = true := by decide +kernel
theorem yx361_3 : y_runC y_hn0 (ytb yw361) 100000 yc361 [yk361_0, yk361_1, yk361_2, yk361_3] yk361_3 = true := by decide +kernel
