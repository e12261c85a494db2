-- RailwayHouse$Channel.agrees: 3174 steps
theorem ye0 : y_runE y_hn0 (ytb yw0) 100000 yc0 [yk0_0] = true := by decide +kernel
theorem yx0_0 : y_runC y_hn0 (ytb yw0) 100000 yc0 [yk0_0] yk0_0 = true := by decide +kernel
-- RailwayHouse$Channel.become: 1086 steps
theorem ye1 : y_runE y_hn0 (ytb yw1) 100000 yc1 [yk1_0] = true := by decide +kernel
theorem yx1_0 : y_runC y_hn0 (ytb yw1) 100000 yc1 [yk1_0] yk1_0 = true := by decide +kernel
-- RailwayHouse$Channel.begin: 372 steps
theorem ye2 : y_runE y_hn0 (ytb yw2) 100000 yc2 [yk2_0] = true := by decide +kernel
theorem yx2_0 : y_runC y_hn0 (ytb yw2) 100000 yc2 [yk2_0] yk2_0 = true := by decide +kernel
-- RailwayHouse$Channel.canHavePoints: 1302 steps
theorem ye3 : y_runE y_hn0 (ytb yw3) 100000 yc3 [yk3_0] = true := by decide +kernel
theorem yx3_0 : y_runC y_hn0 (ytb yw3) 100000 yc3 [yk3_0] yk3_0 = true := by decide +kernel
-- RailwayHouse$Channel.clearSignals: 189 steps
theorem ye4 : y_runE y_hn0 (ytb yw4) 100000 yc4 [yk4_0] = true := by decide +kernel
theorem yx4_0 : y_runC y_hn0 (ytb yw4) 100000 yc4 [yk4_0] yk4_0 = true := by decide +kernel
