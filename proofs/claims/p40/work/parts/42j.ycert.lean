-- RailwayHouseModel.end: 30 steps
theorem ye206 : y_runE y_hn0 (ytb yw206) 100000 yc206 [] = true := by decide +kernel
-- RailwayHouseModel.enter: 4888 steps
theorem ye207 : y_runE (y_hnL yhT) (ytb yw207) 100000 yc207 [] = true := by decide +kernel
-- RailwayHouseModel.enters: 249 steps
theorem ye208 : y_runE (y_hnL yhT) (ytb yw208) 100000 yc208 [yk208_0] = true := by decide +kernel
theorem yx208_0 : y_runC (y_hnL yhT) (ytb yw208) 100000 yc208 [yk208_0] yk208_0 = true := by decide +kernel
-- RailwayHouseModel.fault: 60 steps
theorem ye209 : y_runE y_hn0 (ytb yw209) 100000 yc209 [] = true := by decide +kernel
-- RailwayHouseModel.feed: 760 steps
theorem ye210 : y_runE y_hn0 (ytb yw210) 100000 yc210 [] = true := by decide +kernel
-- RailwayHouseModel.findJourneys: 179 steps
theorem ye211 : y_runE y_hn0 (ytb yw211) 100000 yc211 [yk211_0, yk211_1, yk211_2, yk211_3] = true := by decide +kernel
theorem yx211_0 : y_runC y_hn0 (ytb yw211) 100000 yc211 [yk211_0, yk211_1, yk211_2, yk211_3] yk211_0 = true := by decide +kernel
theorem yx211_1 : y_runC y_hn0 (ytb yw211) 100000 yc211 [yk211_0, yk211_1, yk211_2, yk211_3] yk211_1 = true := by decide +kernel
theorem yx211_2 : y_runC y_hn0 (ytb yw211) 100000 yc211 [yk211_0, yk211_1, yk211_2, yk211_3] yk211_2 = true := by decide +kernel
theorem yx211_3 : y_runC y_hn0 (ytb yw211) 100000 yc211 [yk211_0, yk211_1, yk211_2, yk211_3] yk211_3 = true := by decide +kernel
-- RailwayHouseModel.findNeeds: 1792 steps
theorem ye212 : y_runE (y_hnL yhL) (ytb yw212) 100000 yc212 [yk212_0, yk212_1] = true := by decide +kernel
theorem yx212_0 : y_runC (y_hnL yhL) (ytb yw212) 100000 yc212 [yk212_0, yk212_1] yk212_0 = true := by decide +kernel
theorem yx212_1 : y_runC (y_hnL yhL) (ytb yw212) 100000 yc212 [yk212_0, yk212_1] yk212_1 = true := by decide +kernel
-- RailwayHouseModel.findRoutes: 13298 steps
theorem ye213 : y_runE y_hn0 (ytb yw213) 100000 yc213 [yk213_0, yk213_1, yk213_2] = true := by decide +kernel
theorem yx213_0 : y_runC y_hn0 (ytb yw213) 100000 yc213 [yk213_0, yk213_1, yk213_2] yk213_0 = true := by decide +kernel
theorem yx213_1 : y_runC y_hn0 (ytb yw213) 100000 yc213 [yk213_0, yk213_1, yk213_2] yk213_1 = true := by decide +kernel
theorem yx213_2 : y_runC y_hn0 (ytb yw213) 100000 yc213 [yk213_0, yk213_1, yk213_2] yk213_2 = true := by decide +kernel
