-- RailwayHouseModel.readJoin: 3526 steps
theorem ye274 : y_runE (y_hnL yhN) (ytb yw274) 100000 yc274 [yk274_0] = true := by decide +kernel
theorem yx274_0 : y_runC (y_hnL yhN) (ytb yw274) 100000 yc274 [yk274_0] yk274_0 = true := by decide +kernel
-- RailwayHouseModel.readLayout: 2093 steps
theorem ye275 : y_runE (y_hnL yhN) (ytb yw275) 100000 yc275 [yk275_0, yk275_1, yk275_2, yk275_3] = true := by decide +kernel
theorem yx275_0 : y_runC (y_hnL yhN) (ytb yw275) 100000 yc275 [yk275_0, yk275_1, yk275_2, yk275_3] yk275_0 = true := by decide +kernel
theorem yx275_1 : y_runC (y_hnL yhN) (ytb yw275) 100000 yc275 [yk275_0, yk275_1, yk275_2, yk275_3] yk275_1 = true := by decide +kernel
theorem yx275_2 : y_runC (y_hnL yhN) (ytb yw275) 100000 yc275 [yk275_0, yk275_1, yk275_2, yk275_3] yk275_2 = true := by decide +kernel
theorem yx275_3 : y_runC (y_hnL yhN) (ytb yw275) 100000 yc275 [yk275_0, yk275_1, yk275_2, yk275_3] yk275_3 = true := by decide +kernel
-- RailwayHouseModel.readLayout: 2095 steps
theorem ye276 : y_runE (y_hnL yhN) (ytb yw276) 100000 yc276 [yk276_0, yk276_1, yk276_2, yk276_3] = true := by decide +kernel
theorem yx276_0 : y_runC (y_hnL yhN) (ytb yw276) 100000 yc276 [yk276_0, yk276_1, yk276_2, yk276_3] yk276_0 = true := by decide +kernel
theorem yx276_1 : y_runC (y_hnL yhN) (ytb yw276) 100000 yc276 [yk276_0, yk276_1, yk276_2, yk276_3] yk276_1 = true := by decide +kernel
theorem yx276_2 : y_runC (y_hnL yhN) (ytb yw276) 100000 yc276 [yk276_0, yk276_1, yk276_2, yk276_3] yk276_2 = true := by decide +kernel
theorem yx276_3 : y_runC (y_hnL yhN) (ytb yw276) 100000 yc276 [yk276_0, yk276_1, yk276_2, yk276_3] yk276_3 = true := by decide +kernel
-- RailwayHouseModel.readLayout: 2095 steps
theorem ye277 : y_runE (y_hnL yhN) (ytb yw277) 100000 yc277 [yk277_0, yk277_1, yk277_2, yk277_3] = true := by decide +kernel
theorem yx277_0 : y_runC (y_hnL yhN) (ytb yw277) 100000 yc277 [yk277_0, yk277_1, yk277_2, yk277_3] yk277_0 = true := by decide +kernel
theorem yx277_1 : y_runC (y_hnL yhN) (ytb yw277) 100000 yc277 [yk277_0, yk277_1, yk277_2, yk277_3] yk277_1 = true := by decide +kernel
theorem yx277_2 : y_runC (y_hnL yhN) (ytb yw277) 100000 yc277 [yk277_0, yk277_1, yk277_2, yk277_3] yk277_2 = true := by decide +kernel
theorem yx277_3 : y_runC (y_hnL yhN) (ytb yw277) 100000 yc277 [yk277_0, yk277_1, yk277_2, yk277_3] yk277_3 = true := by decide +kernel
-- RailwayHouseModel.readLayout: 2095 steps
theorem ye278 : y_runE (y_hnL yhN) (ytb yw278) 100000 yc278 [yk278_0, yk278_1, yk278_2, yk278_3] = true := by decide +kernel
theorem yx278_0 : y_runC (y_hnL yhN) (ytb yw278) 100000 yc278 [yk278_0, yk278_1, yk278_2, yk278_3] yk278_0 = true := by decide +kernel
theorem yx278_1 : y_runC (y_hnL yhN) (ytb yw278) 100000 yc278 [yk278_0, yk278_1, yk278_2, yk278_3] yk278_1 = true := by decide +kernel
theorem yx278_2 : y_runC (y_hnL yhN) (ytb yw278) 100000 yc278 [yk278_0, yk278_1, yk278_2, yk278_3] yk278_2 = true := by decide +kernel
theorem yx278_3 : y_runC (y_hnL yhN) (ytb yw278) 100000 yc278 [yk278_0, yk278_1, yk278_2, yk278_3] yk278_3 = true := by decide +kernel
-- RailwayHouseModel.readLayout: 2095 steps
theorem ye279 : y_runE (y_hnL yhN) (ytb yw279) 100000 yc279 [yk279_0, yk279_1, yk279_2, yk279_3] = true := by decide +kernel
theorem yx279_0 : y_runC (y_hnL yhN) (ytb yw279) 100000 yc279 [yk279_0, yk279_1, yk279_2, yk279_3] yk279_0 = true := by decide +kernel
theorem yx279_1 : y_runC (y_hnL yhN) (ytb yw279) 100000 yc279 [yk279_0, yk279_1, yk279_2, yk279_3] yk279_1 = true := by decide +kernel
theorem yx279_2 : y_runC (y_hnL yhN) (ytb yw279) 100000 yc279 [yk279_0, yk279_1, yk279_2, yk279_3] yk279_2 = true := by decide +kernel
theorem yx279_3 : y_runC (y_hnL yhN) (ytb yw279) 100000 yc279 [yk279_0, yk279_1, yk279_2, yk279_3] yk279_3 = true := by decide +kernel
