-- RailwayHouseModel.vote: 429 steps
theorem ye199 : y_runE y_hn0 (ytb yw199) 100000 yc199 [yk199_0, yk199_1, yk199_2] = true := by decide +kernel
theorem yx199_0 : y_runC y_hn0 (ytb yw199) 100000 yc199 [yk199_0, yk199_1, yk199_2] yk199_0 = true := by decide +kernel
theorem yx199_1 : y_runC y_hn0 (ytb yw199) 100000 yc199 [yk199_0, yk199_1, yk199_2] yk199_1 = true := by decide +kernel
theorem yx199_2 : y_runC y_hn0 (ytb yw199) 100000 yc199 [yk199_0, yk199_1, yk199_2] yk199_2 = true := by decide +kernel
-- RailwayHouseModel.voters: 53 steps
theorem ye200 : y_runE y_hn0 (ytb yw200) 100000 yc200 [yk200_0] = true := by decide +kernel
theorem yx200_0 : y_runC y_hn0 (ytb yw200) 100000 yc200 [yk200_0] yk200_0 = true := by decide +kernel
