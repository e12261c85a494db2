-- RailwayHouseModel.readJoin: 7887 steps
theorem ye274 : y_runE (y_hnL yhN) (ytb yw274) 100000 yc274 [] = true := by decide +kernel
-- RailwayHouseModel.readLayout: 2093 steps
theorem ye275 : y_runE (y_hnL yhN) (ytb yw275) 100000 yc275 [yk275_0, yk275_1, yk275_2, yk275_3] = true := by decide +kernel
theorem yx275_0 : y_runC (y_hnL yhN) (ytb yw275) 100000 yc275 [yk275_0, yk275_1, yk275_2, yk275_3] yk275_0 = true := by decide +kernel
theorem yx275_1 : y_runC (y_hnL yhN) (ytb yw275) 100000 yc275 [yk275_0, yk275_1, yk275_2, yk275_3] yk275_1 = true := by decide +kernel
theorem yx275_2 : y_runC (y_hnL yhN) (ytb yw275) 100000 yc275 [yk275_0, yk275_1, yk275_2, yk275_3] yk275_2 = true := by decide +kernel
theorem yx275_3 : y_runC (y_hnL yhN) (ytb yw275) 100000 yc275 [yk275_0, yk275_1, yk275_2, yk275_3] yk275_3 = true := by decide +kernel
-- RailwayHouseModel.readLayout: 2095 steps
theorem ye276 : y_runE (y_hnL yhN) (ytb yw276) 100000 yc276 [yk276_0, yk276_1, yk276_2, yk276_3] = true := by decide +kernel
theorem yx276_0 : y_runC (y_hnL yhN) (ytb yw276) 100000 yc276 [yk276_0, yk276_1, yk276_2, yk276_3] yk276_0 = true := by decide +kernel
theorem yx276_1 : y_runC (y_hnL yhN) (ytb yw276) 100000 yc276 [yk276_0, yk276_1, yk276_2, yk276_3] yk276_1 = true := by decide +kernel
theorem yx276_2 : y_runC (y_hnL yhN) (ytb yw276) 100000 yc276 [yk276_0, yk276_1, yk276_2, yk276_3] yk276_2 = true := by decide +kernel
theorem yx276_3 : y_runC (y_hnL yhN) (ytb yw276) 100000 yc276 [yk276_0, yk276_1, yk276_2, yk276_3] yk276_3 = true := by decide +kernel
