-- RailwayHouseModel.end: 30 steps
theorem ye201 : y_runE y_hn0 (ytb yw201) 100000 yc201 [] = true := by decide +kernel
-- RailwayHouseModel.enter: 4888 steps
theorem ye202 : y_runE (y_hnL yhT) (ytb yw202) 100000 yc202 [] = true := by decide +kernel
-- RailwayHouseModel.enters: 249 steps
theorem ye203 : y_runE (y_hnL yhT) (ytb yw203) 100000 yc203 [yk203_0] = true := by decide +kernel
theorem yx203_0 : y_runC (y_hnL yhT) (ytb yw203) 100000 yc203 [yk203_0] yk203_0 = true := by decide +kernel
-- RailwayHouseModel.fault: 60 steps
theorem ye204 : y_runE y_hn0 (ytb yw204) 100000 yc204 [] = true := by decide +kernel
-- RailwayHouseModel.feed: 760 steps
theorem ye205 : y_runE y_hn0 (ytb yw205) 100000 yc205 [] = true := by decide +kernel
-- RailwayHouseModel.findJourneys: 179 steps
theorem ye206 : y_runE y_hn0 (ytb yw206) 100000 yc206 [yk206_0, yk206_1, yk206_2, yk206_3] = true := by decide +kernel
theorem yx206_0 : y_runC y_hn0 (ytb yw206) 100000 yc206 [yk206_0, yk206_1, yk206_2, yk206_3] yk206_0 = true := by decide +kernel
theorem yx206_1 : y_runC y_hn0 (ytb yw206) 100000 yc206 [yk206_0, yk206_1, yk206_2, yk206_3] yk206_1 = true := by decide +kernel
theorem yx206_2 : y_runC y_hn0 (ytb yw206) 100000 yc206 [yk206_0, yk206_1, yk206_2, yk206_3] yk206_2 = true := by decide +kernel
theorem yx206_3 : y_runC y_hn0 (ytb yw206) 100000 yc206 [yk206_0, yk206_1, yk206_2, yk206_3] yk206_3 = true := by decide +kernel
-- RailwayHouseModel.findNeeds: 1792 steps
theorem ye207 : y_runE (y_hnL yhL) (ytb yw207) 100000 yc207 [yk207_0, yk207_1] = true := by decide +kernel
theorem yx207_0 : y_runC (y_hnL yhL) (ytb yw207) 100000 yc207 [yk207_0, yk207_1] yk207_0 = true := by decide +kernel
theorem yx207_1 : y_runC (y_hnL yhL) (ytb yw207) 100000 yc207 [yk207_0, yk207_1] yk207_1 = true := by decide +kernel
-- RailwayHouseModel.findRoutes: 13298 steps
theorem ye208 : y_runE y_hn0 (ytb yw208) 100000 yc208 [yk208_0, yk208_1, yk208_2] = true := by decide +kernel
theorem yx208_0 : y_runC y_hn0 (ytb yw208) 100000 yc208 [yk208_0, yk208_1, yk208_2] yk208_0 = true := by decide +kernel
theorem yx208_1 : y_runC y_hn0 (ytb yw208) 100000 yc208 [yk208_0, yk208_1, yk208_2] yk208_1 = true := by decide +kernel
theorem yx208_2 : y_runC y_hn0 (ytb yw208) 100000 yc208 [yk208_0, yk208_1, yk208_2] yk208_2 = true := by decide +kernel
