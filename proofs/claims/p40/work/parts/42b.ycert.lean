-- RailwayHouse$Channel.stepInUse: 2571 steps
theorem ye14 : y_runE y_hn0 (ytb yw14) 100000 yc14 [yk14_0, yk14_1] = true := by decide +kernel
theorem yx14_0 : y_runC y_hn0 (ytb yw14) 100000 yc14 [yk14_0, yk14_1] yk14_0 = true := by decide +kernel
theorem yx14_1 : y_runC y_hn0 (ytb yw14) 100000 yc14 [yk14_0, yk14_1] yk14_1 = true := by decide +kernel
-- RailwayHouse$Channel.stepRoute: 1557 steps
theorem ye15 : y_runE y_hn0 (ytb yw15) 100000 yc15 [] = true := by decide +kernel
-- RailwayHouse$Channel.tell: 126 steps
theorem ye16 : y_runE y_hn0 (ytb yw16) 100000 yc16 [] = true := by decide +kernel
-- RailwayHouse$Channel.writeRow: 7290 steps
theorem ye17 : y_runE y_hn0 (ytb yw17) 100000 yc17 [yk17_0] = true := by decide +kernel
theorem yx17_0 : y_runC y_hn0 (ytb yw17) 100000 yc17 [yk17_0] yk17_0 = true := by decide +kernel
-- RailwayHouse$Journeys.beginLevel: 360 steps
theorem ye18 : y_runE y_hn0 (ytb yw18) 100000 yc18 [yk18_0] = true := by decide +kernel
theorem yx18_0 : y_runC y_hn0 (ytb yw18) 100000 yc18 [yk18_0] yk18_0 = true := by decide +kernel
-- RailwayHouse$Journeys.changeInto: 885 steps
theorem ye19 : y_runE y_hn0 (ytb yw19) 100000 yc19 [yk19_0, yk19_1] = true := by decide +kernel
theorem yx19_0 : y_runC y_hn0 (ytb yw19) 100000 yc19 [yk19_0, yk19_1] yk19_0 = true := by decide +kernel
theorem yx19_1 : y_runC y_hn0 (ytb yw19) 100000 yc19 [yk19_0, yk19_1] yk19_1 = true := by decide +kernel
