-- RailwayHouse$Ways.comeIn: 8614 steps
theorem ye77 : y_runE y_hn0 (ytb yw77) 100000 yc77 [] = true := by decide +kernel
-- RailwayHouse$Ways.comeIn: 14 steps
theorem ye78 : y_runE y_hn0 (ytb yw78) 100000 yc78 [] = true := by decide +kernel
-- RailwayHouse$Ways.conflictOf: 792 steps
theorem ye79 : y_runE y_hn0 (ytb yw79) 100000 yc79 [] = true := by decide +kernel
-- RailwayHouse$Ways.findAll: 46 steps
theorem ye80 : y_runE y_hn0 (ytb yw80) 100000 yc80 [yk80_0] = true := by decide +kernel
theorem yx80_0 : y_runC y_hn0 (ytb yw80) 100000 yc80 [yk80_0] yk80_0 = true := by decide +kernel
-- RailwayHouse$Ways.findNeeds: 353 steps
theorem ye81 : y_runE y_hn0 (ytb yw81) 100000 yc81 [yk81_0, yk81_1, yk81_2, yk81_3] = true := by decide +kernel
theorem yx81_0 : y_runC y_hn0 (ytb yw81) 100000 yc81 [yk81_0, yk81_1, yk81_2, yk81_3] yk81_0 = true := by decide +kernel
theorem yx81_1 : y_runC y_hn0 (ytb yw81) 100000 yc81 [yk81_0, yk81_1, yk81_2, yk81_3] yk81_1 = true := by decide +kernel
theorem yx81_2 : y_runC y_hn0 (ytb yw81) 100000 yc81 [yk81_0, yk81_1, yk81_2, yk81_3] yk81_2 = true := by decide +kernel
theorem yx81_3 : y_runC y_hn0 (ytb yw81) 100000 yc81 [yk81_0, yk81_1, yk81_2, yk81_3] yk81_3 = true := by decide +kernel
-- RailwayHouse$Ways.findNeeds: 561 steps
theorem ye82 : y_runE y_hn0 (ytb yw82) 100000 yc82 [yk82_0, yk82_1, yk82_2, yk82_3, yk82_4, yk82_5] = true := by decide +kernel
theorem yx82_0 : y_runC y_hn0 (ytb yw82) 100000 yc82 [yk82_0, yk82_1, yk82_2, yk82_3, yk82_4, yk82_5] yk82_0 = true := by decide +kernel
theorem yx82_1 : y_runC y_hn0 (ytb yw82) 100000 yc82 [yk82_0, yk82_1, yk82_2, yk82_3, yk82_4, yk82_5] yk82_1 = true := by decide +kernel
theorem yx82_2 : y_runC y_hn0 (ytb yw82) 100000 yc82 [yk82_0, yk82_1, yk82_2, yk82_3, yk82_4, yk82_5] yk82_2 = true := by decide +kernel
theorem yx82_3 : y_runC y_hn0 (ytb yw82) 100000 yc82 [yk82_0, yk82_1, yk82_2, yk82_3, yk82_4, yk82_5] yk82_3 = true := by decide +kernel
theorem yx82_4 : y_runC y_hn0 (ytb yw82) 100000 yc82 [yk82_0, yk82_1, yk82_2, yk82_3, yk82_4, yk82_5] yk82_4 = true := by decide +kernel
theorem yx82_5 : y_runC y_hn0 (ytb yw82) 100000 yc82 [yk82_0, yk82_1, yk82_2, yk82_3, yk82_4, yk82_5] yk82_5 = true := by decide +kernel
-- RailwayHouse$Ways.findNeeds: 769 steps
theorem ye83 : y_runE y_hn0 (ytb yw83) 100000 yc83 [yk83_0, yk83_1, yk83_2, yk83_3, yk83_4, yk83_5, yk83_6, yk83_7] = true := by decide +kernel
theorem yx83_0 : y_runC y_hn0 (ytb yw83) 100000 yc83 [yk83_0, yk83_1, yk83_2, yk83_3, yk83_4, yk83_5, yk83_6, yk83_7] yk83_0 = true := by decide +kernel
theorem yx83_1 : y_runC y_hn0 (ytb yw83) 100000 yc83 [yk83_0, yk83_1, yk83_2, yk83_3, yk83_4, yk83_5, yk83_6, yk83_7] yk83_1 = true := by decide +kernel
theorem yx83_2 : y_runC y_hn0 (ytb yw83) 100000 yc83 [yk83_0, yk83_1, yk83_2, yk83_3, yk83_4, yk83_5, yk83_6, yk83_7] yk83_2 = true := by decide +kernel
theorem yx83_3 : y_runC y_hn0 (ytb yw83) 100000 yc83 [yk83_0, yk83_1, yk83_2, yk83_3, yk83_4, yk83_5, yk83_6, yk83_7] yk83_3 = true := by decide +kernel
theorem yx83_4 : y_runC y_hn0 (ytb yw83) 100000 yc83 [yk83_0, yk83_1, yk83_2, yk83_3, yk83_4, yk83_5, yk83_6, yk83_7] yk83_4 = true := by decide +kernel
theorem yx83_5 : y_runC y_hn0 (ytb yw83) 100000 yc83 [yk83_0, yk83_1, yk83_2, yk83_3, yk83_4, yk83_5, yk83_6, yk83_7] yk83_5 = true := by decide +kernel
theorem yx83_6 : y_runC y_hn0 (ytb yw83) 100000 yc83 [yk83_0, yk83_1, yk83_2, yk83_3, yk83_4, yk83_5, yk83_6, yk83_7] yk83_6 = true := by decide +kernel
theorem yx83_7 : y_runC y_hn0 (ytb yw83) 100000 yc83 [yk83_0, yk83_1, yk83_2, yk83_3, yk83_4, yk83_5, yk83_6, yk83_7] yk83_7 = true := by decide +kernel
-- RailwayHouse$Ways.findNeeds: 977 steps
theorem ye84 : y_runE y_hn0 (ytb yw84) 100000 yc84 [yk84_0, yk84_1, yk84_2, yk84_3, yk84_4, yk84_5, yk84_6, yk84_7, yk84_8, yk84_9] = true := by decide +kernel
theorem yx84_0 : y_runC y_hn0 (ytb yw84) 100000 yc84 [yk84_0, yk84_1, yk84_2, yk84_3, yk84_4, yk84_5, yk84_6, yk84_7, yk84_8, yk84_9] yk84_0 = true := by decide +kernel
theorem yx84_1 : y_runC y_hn0 (ytb yw84) 100000 yc84 [yk84_0, yk84_1, yk84_2, yk84_3, yk84_4, yk84_5, yk84_6, yk84_7, yk84_8, yk84_9] yk84_1 = true := by decide +kernel
theorem yx84_2 : y_runC y_hn0 (ytb yw84) 100000 yc84 [yk84_0, yk84_1, yk84_2, yk84_3, yk84_4, yk84_5, yk84_6, yk84_7, yk84_8, yk84_9] yk84_2 = true := by decide +kernel
theorem yx84_3 : y_runC y_hn0 (ytb yw84) 100000 yc84 [yk84_0, yk84_1, yk84_2, yk84_3, yk84_4, yk84_5, yk84_6, yk84_7, yk84_8, yk84_9] yk84_3 = true := by decide +kernel
theorem yx84_4 : y_runC y_hn0 (ytb yw84) 100000 yc84 [yk84_0, yk84_1, yk84_2, yk84_3, yk84_4, yk84_5, yk84_6, yk84_7, yk84_8, yk84_9] yk84_4 = true := by decide +kernel
theorem yx84_5 : y_runC y_hn0 (ytb yw84) 100000 yc84 [yk84_0, yk84_1, yk84_2, yk84_3, yk84_4, yk84_5, yk84_6, yk84_7, yk84_8, yk84_9] yk84_5 = true := by decide +kernel
theorem yx84_6 : y_runC y_hn0 (ytb yw84) 100000 yc84 [yk84_0, yk84_1, yk84_2, yk84_3, yk84_4, yk84_5, yk84_6, yk84_7, yk84_8, yk84_9] yk84_6 = true := by decide +kernel
theorem yx84_7 : y_runC y_hn0 (ytb yw84) 100000 yc84 [yk84_0, yk84_1, yk84_2, yk84_3, yk84_4, yk84_5, yk84_6, yk84_7, yk84_8, yk84_9] yk84_7 = true := by decide +kernel
theorem yx84_8 : y_runC y_hn0 (ytb yw84) 100000 yc84 [yk84_0, yk84_1, yk84_2, yk84_3, yk84_4, yk84_5, yk84_6, yk84_7, yk84_8, yk84_9] yk84_8 = true := by decide +kernel
theorem yx84_9 : y_runC y_hn0 (ytb yw84) 100000 yc84 [yk84_0, yk84_1, yk84_2, yk84_3, yk84_4, yk84_5, yk84_6, yk84_7, yk84_8, yk84_9] yk84_9 = true := by decide +kernel
