-- RailwayHouseModel.readLayout: 2095 steps
theorem ye291 : y_runE (y_hnL yhN) (ytb yw291) 100000 yc291 [yk291_0, yk291_1, yk291_2, yk291_3] = true := by decide +kernel
theorem yx291_0 : y_runC (y_hnL yhN) (ytb yw291) 100000 yc291 [yk291_0, yk291_1, yk291_2, yk291_3] yk291_0 = true := by decide +kernel
theorem yx291_1 : y_runC (y_hnL yhN) (ytb yw291) 100000 yc291 [yk291_0, yk291_1, yk291_2, yk291_3] yk291_1 = true := by decide +kernel
theorem yx291_2 : y_runC (y_hnL yhN) (ytb yw291) 100000 yc291 [yk291_0, yk291_1, yk291_2, yk291_3] yk291_2 = true := by decide +kernel
theorem yx291_3 : y_runC (y_hnL yhN) (ytb yw291) 100000 yc291 [yk291_0, yk291_1, yk291_2, yk291_3] yk291_3 = true := by decide +kernel
-- RailwayHouseModel.readLayout: 2095 steps
theorem ye292 : y_runE (y_hnL yhN) (ytb yw292) 100000 yc292 [yk292_0, yk292_1, yk292_2, yk292_3] = true := by decide +kernel
theorem yx292_0 : y_runC (y_hnL yhN) (ytb yw292) 100000 yc292 [yk292_0, yk292_1, yk292_2, yk292_3] yk292_0 = true := by decide +kernel
theorem yx292_1 : y_runC (y_hnL yhN) (ytb yw292) 100000 yc292 [yk292_0, yk292_1, yk292_2, yk292_3] yk292_1 = true := by decide +kernel
theorem yx292_2 : y_runC (y_hnL yhN) (ytb yw292) 100000 yc292 [yk292_0, yk292_1, yk292_2, yk292_3] yk292_2 = true := by decide +kernel
theorem yx292_3 : y_runC (y_hnL yhN) (ytb yw292) 100000 yc292 [yk292_0, yk292_1, yk292_2, yk292_3] yk292_3 = true := by decide +kernel
-- RailwayHouseModel.readLayout: 2095 steps
theorem ye293 : y_runE (y_hnL yhN) (ytb yw293) 100000 yc293 [yk293_0, yk293_1, yk293_2, yk293_3] = true := by decide +kernel
theorem yx293_0 : y_runC (y_hnL yhN) (ytb yw293) 100000 yc293 [yk293_0, yk293_1, yk293_2, yk293_3] yk293_0 = true := by decide +kernel
theorem yx293_1 : y_runC (y_hnL yhN) (ytb yw293) 100000 yc293 [yk293_0, yk293_1, yk293_2, yk293_3] yk293_1 = true := by decide +kernel
theorem yx293_2 : y_runC (y_hnL yhN) (ytb yw293) 100000 yc293 [yk293_0, yk293_1, yk293_2, yk293_3] yk293_2 = true := by decide +kernel
theorem yx293_3 : y_runC (y_hnL yhN) (ytb yw293) 100000 yc293 [yk293_0, yk293_1, yk293_2, yk293_3] yk293_3 = true := by decide +kernel
-- RailwayHouseModel.readLayout: 2095 steps
theorem ye294 : y_runE (y_hnL yhN) (ytb yw294) 100000 yc294 [yk294_0, yk294_1, yk294_2, yk294_3] = true := by decide +kernel
theorem yx294_0 : y_runC (y_hnL yhN) (ytb yw294) 100000 yc294 [yk294_0, yk294_1, yk294_2, yk294_3] yk294_0 = true := by decide +kernel
theorem yx294_1 : y_runC (y_hnL yhN) (ytb yw294) 100000 yc294 [yk294_0, yk294_1, yk294_2, yk294_3] yk294_1 = true := by decide +kernel
theorem yx294_2 : y_runC (y_hnL yhN) (ytb yw294) 100000 yc294 [yk294_0, yk294_1, yk294_2, yk294_3] yk294_2 = true := by decide +kernel
theorem yx294_3 : y_runC (y_hnL yhN) (ytb yw294) 100000 yc294 [yk294_0, yk294_1, yk294_2, yk294_3] yk294_3 = true := by decide +kernel
-- RailwayHouseModel.readLayout: 2095 steps
theorem ye295 : y_runE (y_hnL yhN) (ytb yw295) 100000 yc295 [yk295_0, yk295_1, yk295_2, yk295_3] = true := by decide +kernel
theorem yx295_0 : y_runC (y_hnL yhN) (ytb yw295) 100000 yc295 [yk295_0, yk295_1, yk295_2, yk295_3] yk295_0 = true := by decide +kernel
theorem yx295_1 : y_runC (y_hnL yhN) (ytb yw295) 100000 yc295 [yk295_0, yk295_1, yk295_2, yk295_3] yk295_1 = true := by decide +kernel
theorem yx295_2 : y_runC (y_hnL yhN) (ytb yw295) 100000 yc295 [yk295_0, yk295_1, yk295_2, yk295_3] yk295_2 = true := by decide +kernel
theorem yx295_3 : y_runC (y_hnL yhN) (ytb yw295) 100000 yc295 [yk295_0, yk295_1, yk295_2, yk295_3] yk295_3 = true := by decide +kernel
-- RailwayHouseModel.readSection: 1030 steps
theorem ye296 : y_runE (y_hnL yhN) (ytb yw296) 100000 yc296 [] = true := by decide +kernel
-- RailwayHouseModel.readSignal: 1066 steps
theorem ye297 : y_runE (y_hnL yhN) (ytb yw297) 100000 yc297 [] = true := by decide +kernel
