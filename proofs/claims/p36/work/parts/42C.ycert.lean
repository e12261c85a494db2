-- RailwayHouseModel.takeLayout: 6623 steps
theorem ye361 : y_runE y_hn0 (ytb yw361) 100000 yc361 [yk361_0, yk361_1, yk361_2, yk361_3] = true := by decide +kernel
theorem yx361_0 : y_runC y_hn0 (ytb yw361) 100000 yc361 [yk361_0, yk361_1, yk361_2, yk361_3] yk361_0 = true := by decide +kernel
theorem yx361_1 : y_runC y_hn0 (ytb yw361) 100000 yc361 [yk361_0, yk361_1, yk361_2, yk361_3] yk361_1 = true := by decide +kernel
theorem yx361_2 : y_runC y_hn0 (ytb yw361) 100000 yc361 [yk361_0, yk361_1, yk361_2, yk361_3] yk361_2 = true := by decide +kernel
theorem yx361_3 : y_runC y_hn0 (ytb yw361) 100000 yc361 [yk361_0, yk361_1, yk361_2, yk361_3] yk361_3 = true := by decide +kernel
-- RailwayHouseModel.takeLayout: 6623 steps
theorem ye362 : y_runE y_hn0 (ytb yw362) 100000 yc362 [yk362_0, yk362_1, yk362_2, yk362_3] = true := by decide +kernel
theorem yx362_0 : y_runC y_hn0 (ytb yw362) 100000 yc362 [yk362_0, yk362_1, yk362_2, yk362_3] yk362_0 = true := by decide +kernel
theorem yx362_1 : y_runC y_hn0 (ytb yw362) 100000 yc362 [yk362_0, yk362_1, yk362_2, yk362_3] yk362_1 = true := by decide +kernel
theorem yx362_2 : y_runC y_hn0 (ytb yw362) 100000 yc362 [yk362_0, yk362_1, yk362_2, yk362_3] yk362_2 = true := by decide +kernel
theorem yx362_3 : y_runC y_hn0 (ytb yw362) 100000 yc362 [yk362_0, yk362_1, yk362_2, yk362_3] yk362_3 = true := by decide +kernel
