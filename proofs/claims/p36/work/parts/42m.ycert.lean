-- RailwayHouseModel.readLayout: 2095 steps
theorem ye277 : y_runE (y_hnL yhN) (ytb yw277) 100000 yc277 [yk277_0, yk277_1, yk277_2, yk277_3] = true := by decide +kernel
theorem yx277_0 : y_runC (y_hnL yhN) (ytb yw277) 100000 yc277 [yk277_0, yk277_1, yk277_2, yk277_3] yk277_0 = true := by decide +kernel
theorem yx277_1 : y_runC (y_hnL yhN) (ytb yw277) 100000 yc277 [yk277_0, yk277_1, yk277_2, yk277_3] yk277_1 = true := by decide +kernel
theorem yx277_2 : y_runC (y_hnL yhN) (ytb yw277) 100000 yc277 [yk277_0, yk277_1, yk277_2, yk277_3] yk277_2 = true := by decide +kernel
theorem yx277_3 : y_runC (y_hnL yhN) (ytb yw277) 100000 yc277 [yk277_0, yk277_1, yk277_2, yk277_3] yk277_3 = true := by decide +kernel
-- RailwayHouseModel.readLayout: 2095 steps
theorem ye278 : y_runE (y_hnL yhN) (ytb yw278) 100000 yc278 [yk278_0, yk278_1, yk278_2, yk278_3] = true := by decide +kernel
theorem yx278_0 : y_runC (y_hnL yhN) (ytb yw278) 100000 yc278 [yk278_0, yk278_1, yk278_2, yk278_3] yk278_0 = true := by decide +kernel
theorem yx278_1 : y_runC (y_hnL yhN) (ytb yw278) 100000 yc278 [yk278_0, yk278_1, yk278_2, yk278_3] yk278_1 = true := by decide +kernel
theorem yx278_2 : y_runC (y_hnL yhN) (ytb yw278) 100000 yc278 [yk278_0, yk278_1, yk278_2, yk278_3] yk278_2 = true := by decide +kernel
theorem yx278_3 : y_runC (y_hnL yhN) (ytb yw278) 100000 yc278 [yk278_0, yk278_1, yk278_2, yk278_3] yk278_3 = true := by decide +kernel
-- RailwayHouseModel.readLayout: 2095 steps
theorem ye279 : y_runE (y_hnL yhN) (ytb yw279) 100000 yc279 [yk279_0, yk279_1, yk279_2, yk279_3] = true := by decide +kernel
theorem yx279_0 : y_runC (y_hnL yhN) (ytb yw279) 100000 yc279 [yk279_0, yk279_1, yk279_2, yk279_3] yk279_0 = true := by decide +kernel
theorem yx279_1 : y_runC (y_hnL yhN) (ytb yw279) 100000 yc279 [yk279_0, yk279_1, yk279_2, yk279_3] yk279_1 = true := by decide +kernel
theorem yx279_2 : y_runC (y_hnL yhN) (ytb yw279) 100000 yc279 [yk279_0, yk279_1, yk279_2, yk279_3] yk279_2 = true := by decide +kernel
theorem yx279_3 : y_runC (y_hnL yhN) (ytb yw279) 100000 yc279 [yk279_0, yk279_1, yk279_2, yk279_3] yk279_3 = true := by decide +kernel
-- RailwayHouseModel.readLayout: 2095 steps
theorem ye280 : y_runE (y_hnL yhN) (ytb yw280) 100000 yc280 [yk280_0, yk280_1, yk280_2, yk280_3] = true := by decide +kernel
theorem yx280_0 : y_runC (y_hnL yhN) (ytb yw280) 100000 yc280 [yk280_0, yk280_1, yk280_2, yk280_3] yk280_0 = true := by decide +kernel
theorem yx280_1 : y_runC (y_hnL yhN) (ytb yw280) 100000 yc280 [yk280_0, yk280_1, yk280_2, yk280_3] yk280_1 = true := by decide +kernel
theorem yx280_2 : y_runC (y_hnL yhN) (ytb yw280) 100000 yc280 [yk280_0, yk280_1, yk280_2, yk280_3] yk280_2 = true := by decide +kernel
theorem yx280_3 : y_runC (y_hnL yhN) (ytb yw280) 100000 yc280 [yk280_0, yk280_1, yk280_2, yk280_3] yk280_3 = true := by decide +kernel
-- RailwayHouseModel.readLayout: 2095 steps
theorem ye281 : y_runE (y_hnL yhN) (ytb yw281) 100000 yc281 [yk281_0, yk281_1, yk281_2, yk281_3] = true := by decide +kernel
theorem yx281_0 : y_runC (y_hnL yhN) (ytb yw281) 100000 yc281 [yk281_0, yk281_1, yk281_2, yk281_3] yk281_0 = true := by decide +kernel
theorem yx281_1 : y_runC (y_hnL yhN) (ytb yw281) 100000 yc281 [yk281_0, yk281_1, yk281_2, yk281_3] yk281_1 = true := by decide +kernel
theorem yx281_2 : y_runC (y_hnL yhN) (ytb yw281) 100000 yc281 [yk281_0, yk281_1, yk281_2, yk281_3] yk281_2 = true := by decide +kernel
theorem yx281_3 : y_runC (y_hnL yhN) (ytb yw281) 100000 yc281 [yk281_0, yk281_1, yk281_2, yk281_3] yk281_3 = true := by decide +kernel
-- RailwayHouseModel.readLayout: 2093 steps
theorem ye282 : y_runE (y_hnL yhN) (ytb yw282) 100000 yc282 [yk282_0, yk282_1, yk282_2, yk282_3] = true := by decide +kernel
theorem yx282_0 : y_runC (y_hnL yhN) (ytb yw282) 100000 yc282 [yk282_0, yk282_1, yk282_2, yk282_3] yk282_0 = true := by decide +kernel
theorem yx282_1 : y_runC (y_hnL yhN) (ytb yw282) 100000 yc282 [yk282_0, yk282_1, yk282_2, yk282_3] yk282_1 = true := by decide +kernel
theorem yx282_2 : y_runC (y_hnL yhN) (ytb yw282) 100000 yc282 [yk282_0, yk282_1, yk282_2, yk282_3] yk282_2 = true := by decide +kernel
theorem yx282_3 : y_runC (y_hnL yhN) (ytb yw282) 100000 yc282 [yk282_0, yk282_1, yk282_2, yk282_3] yk282_3 = true := by decide +kernel
