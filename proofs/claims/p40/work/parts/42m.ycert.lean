-- RailwayHouseModel.readJoin: 3526 steps
theorem ye279 : y_runE (y_hnL yhN) (ytb yw279) 100000 yc279 [yk279_0] = true := by decide +kernel
theorem yx279_0 : y_runC (y_hnL yhN) (ytb yw279) 100000 yc279 [yk279_0] yk279_0 = true := by decide +kernel
-- RailwayHouseModel.readLayout: 2093 steps
theorem ye280 : y_runE (y_hnL yhN) (ytb yw280) 100000 yc280 [yk280_0, yk280_1, yk280_2, yk280_3] = true := by decide +kernel
theorem yx280_0 : y_runC (y_hnL yhN) (ytb yw280) 100000 yc280 [yk280_0, yk280_1, yk280_2, yk280_3] yk280_0 = true := by decide +kernel
theorem yx280_1 : y_runC (y_hnL yhN) (ytb yw280) 100000 yc280 [yk280_0, yk280_1, yk280_2, yk280_3] yk280_1 = true := by decide +kernel
theorem yx280_2 : y_runC (y_hnL yhN) (ytb yw280) 100000 yc280 [yk280_0, yk280_1, yk280_2, yk280_3] yk280_2 = true := by decide +kernel
theorem yx280_3 : y_runC (y_hnL yhN) (ytb yw280) 100000 yc280 [yk280_0, yk280_1, yk280_2, yk280_3] yk280_3 = true := by decide +kernel
-- RailwayHouseModel.readLayout: 2095 steps
theorem ye281 : y_runE (y_hnL yhN) (ytb yw281) 100000 yc281 [yk281_0, yk281_1, yk281_2, yk281_3] = true := by decide +kernel
theorem yx281_0 : y_runC (y_hnL yhN) (ytb yw281) 100000 yc281 [yk281_0, yk281_1, yk281_2, yk281_3] yk281_0 = true := by decide +kernel
theorem yx281_1 : y_runC (y_hnL yhN) (ytb yw281) 100000 yc281 [yk281_0, yk281_1, yk281_2, yk281_3] yk281_1 = true := by decide +kernel
theorem yx281_2 : y_runC (y_hnL yhN) (ytb yw281) 100000 yc281 [yk281_0, yk281_1, yk281_2, yk281_3] yk281_2 = true := by decide +kernel
theorem yx281_3 : y_runC (y_hnL yhN) (ytb yw281) 100000 yc281 [yk281_0, yk281_1, yk281_2, yk281_3] yk281_3 = true := by decide +kernel
-- RailwayHouseModel.readLayout: 2095 steps
theorem ye282 : y_runE (y_hnL yhN) (ytb yw282) 100000 yc282 [yk282_0, yk282_1, yk282_2, yk282_3] = true := by decide +kernel
theorem yx282_0 : y_runC (y_hnL yhN) (ytb yw282) 100000 yc282 [yk282_0, yk282_1, yk282_2, yk282_3] yk282_0 = true := by decide +kernel
theorem yx282_1 : y_runC (y_hnL yhN) (ytb yw282) 100000 yc282 [yk282_0, yk282_1, yk282_2, yk282_3] yk282_1 = true := by decide +kernel
theorem yx282_2 : y_runC (y_hnL yhN) (ytb yw282) 100000 yc282 [yk282_0, yk282_1, yk282_2, yk282_3] yk282_2 = true := by decide +kernel
theorem yx282_3 : y_runC (y_hnL yhN) (ytb yw282) 100000 yc282 [yk282_0, yk282_1, yk282_2, yk282_3] yk282_3 = true := by decide +kernel
-- RailwayHouseModel.readLayout: 2095 steps
theorem ye283 : y_runE (y_hnL yhN) (ytb yw283) 100000 yc283 [yk283_0, yk283_1, yk283_2, yk283_3] = true := by decide +kernel
theorem yx283_0 : y_runC (y_hnL yhN) (ytb yw283) 100000 yc283 [yk283_0, yk283_1, yk283_2, yk283_3] yk283_0 = true := by decide +kernel
theorem yx283_1 : y_runC (y_hnL yhN) (ytb yw283) 100000 yc283 [yk283_0, yk283_1, yk283_2, yk283_3] yk283_1 = true := by decide +kernel
theorem yx283_2 : y_runC (y_hnL yhN) (ytb yw283) 100000 yc283 [yk283_0, yk283_1, yk283_2, yk283_3] yk283_2 = true := by decide +kernel
theorem yx283_3 : y_runC (y_hnL yhN) (ytb yw283) 100000 yc283 [yk283_0, yk283_1, yk283_2, yk283_3] yk283_3 = true := by decide +kernel
-- RailwayHouseModel.readLayout: 2095 steps
theorem ye284 : y_runE (y_hnL yhN) (ytb yw284) 100000 yc284 [yk284_0, yk284_1, yk284_2, yk284_3] = true := by decide +kernel
theorem yx284_0 : y_runC (y_hnL yhN) (ytb yw284) 100000 yc284 [yk284_0, yk284_1, yk284_2, yk284_3] yk284_0 = true := by decide +kernel
theorem yx284_1 : y_runC (y_hnL yhN) (ytb yw284) 100000 yc284 [yk284_0, yk284_1, yk284_2, yk284_3] yk284_1 = true := by decide +kernel
theorem yx284_2 : y_runC (y_hnL yhN) (ytb yw284) 100000 yc284 [yk284_0, yk284_1, yk284_2, yk284_3] yk284_2 = true := by decide +kernel
theorem yx284_3 : y_runC (y_hnL yhN) (ytb yw284) 100000 yc284 [yk284_0, yk284_1, yk284_2, yk284_3] yk284_3 = true := by decide +kernel
