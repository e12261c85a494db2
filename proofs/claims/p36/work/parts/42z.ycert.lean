-- RailwayHouseModel.takeLayout: 6621 steps
theorem ye355 : y_runE y_hn0 (ytb yw355) 100000 yc355 [yk355_0, yk355_1, yk355_2, yk355_3] = true := by decide +kernel
theorem yx355_0 : y_runC y_hn0 (ytb yw355) 100000 yc355 [yk355_0, yk355_1, yk355_2, yk355_3] yk355_0 = true := by decide +kernel
theorem yx355_1 : y_runC y_hn0 (ytb yw355) 100000 yc355 [yk355_0, yk355_1, yk355_2, yk355_3] yk355_1 = true := by decide +kernel
theorem yx355_2 : y_runC y_hn0 (ytb yw355) 100000 yc355 [yk355_0, yk355_1, yk355_2, yk355_3] yk355_2 = true := by decide +kernel
theorem yx355_3 : y_runC y_hn0 (ytb yw355) 100000 yc355 [yk355_0, yk355_1, yk355_2, yk355_3] yk355_3 = true := by decide +kernel
-- RailwayHouseModel.takeLayout: 6623 steps
theorem ye356 : y_runE y_hn0 (ytb yw356) 100000 yc356 [yk356_0, yk356_1, yk356_2, yk356_3] = true := by decide +kernel
theorem yx356_0 : y_runC y_hn0 (ytb yw356) 100000 yc356 [yk356_0, yk356_1, yk356_2, yk356_3] yk356_0 = true := by decide +kernel
theorem yx356_1 : y_runC y_hn0 (ytb yw356) 100000 yc356 [yk356_0, yk356_1, yk356_2, yk356_3] yk356_1 = true := by decide +kernel
theorem yx356_2 : y_runC y_hn0 (ytb yw356) 100000 yc356 [yk356_0, yk356_1, yk356_2, yk356_3] yk356_2 = true := by decide +kernel
theorem yx356_3 : y_runC y_hn0 (ytb yw356) 100000 yc356 [yk356_0, yk356_1, yk356_2, yk356_3] yk356_3 = true := by decide +kernel
