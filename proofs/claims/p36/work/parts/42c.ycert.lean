-- RailwayHouse$Channel.stepRoute: 1557 steps
theorem ye15 : y_runE y_hn0 (ytb yw15) 100000 yc15 [] = true := by decide +kernel
-- RailwayHouse$Channel.tell: 126 steps
theorem ye16 : y_runE y_hn0 (ytb yw16) 100000 yc16 [] = true := by decide +kernel
-- RailwayHouse$Channel.writeRow: 7290 steps
theorem ye17 : y_runE y_hn0 (ytb yw17) 100000 yc17 [yk17_0] = true := by decide +kernel
theorem yx17_0 : y_runC y_hn0 (ytb yw17) 100000 yc17 [yk17_0] yk17_0 = true := by decide +kernel
