-- RailwayHouseModel.takeLayout: 6621 steps
theorem ye354 : y_runE y_hn0 (ytb yw354) 100000 yc354 [yk354_0, yk354_1, yk354_2, yk354_3] = true := by decide +kernel
theorem yx354_0 : y_runC y_hn0 (ytb yw354) 100000 yc354 [yk354_0, yk354_1, yk354_2, yk354_3] yk354_0 = true := by decide +kernel
theorem yx354_1 : y_runC y_hn0 (ytb yw354) 100000 yc354 [yk354_0, yk354_1, yk354_2, yk354_3] yk354_1 = true := by decide +kernel
theorem yx354_2 : y_runC y_hn0 (ytb yw354) 100000 yc354 [yk354_0, yk354_1, yk354_2, yk354_3] yk354_2 = true := by decide +kernel
theorem yx354_3 : y_runC y_hn0 (ytb yw354) 100000 yc354 [yk354_0, yk354_1, yk354_2, yk354_3] yk354_3 = true := by decide +kernel
-- RailwayHouseModel.takeLayout: 6623 steps
theorem ye355 : y_runE y_hn0 (ytb yw355) 100000 yc355 [yk355_0, yk355_1, yk355_2, yk355_3] = true := by decide +kernel
theorem yx355_0 : y_runC y_hn0 (ytb yw355) 100000 yc355 [yk355_0, yk355_1, yk355_2, yk355_3] yk355_0 = true := by decide +kernel
theorem yx355_1 : y_runC y_hn0 (ytb yw355) 100000 yc355 [yk355_0, yk355_1, yk355_2, yk355_3] yk355_1 = true := by decide +kernel
theorem yx355_2 : y_runC y_hn0 (ytb yw355) 100000 yc355 [yk355_0, yk355_1, yk355_2, yk355_3] yk355_2 = true := by decide +kernel
theorem yx355_3 : y_runC y_hn0 (ytb yw355) 100000 yc355 [yk355_0, yk355_1, yk355_2, yk355_3] yk355_3 = true := by decide +kernel
