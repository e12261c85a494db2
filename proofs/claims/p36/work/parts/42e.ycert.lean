-- RailwayHouse$Vote.passTick: 231 steps
theorem ye65 : y_runE y_hn0 (ytb yw65) 100000 yc65 [] = true := by decide +kernel
-- RailwayHouse$Vote.resetByHand: 526 steps
theorem ye66 : y_runE y_hn0 (ytb yw66) 100000 yc66 [] = true := by decide +kernel
-- RailwayHouse$Vote.startFromDisk: 215 steps
theorem ye67 : y_runE y_hn0 (ytb yw67) 100000 yc67 [yk67_0, yk67_1] = true := by decide +kernel
theorem yx67_0 : y_runC y_hn0 (ytb yw67) 100000 yc67 [yk67_0, yk67_1] yk67_0 = true := by decide +kernel
theorem yx67_1 : y_runC y_hn0 (ytb yw67) 100000 yc67 [yk67_0, yk67_1] yk67_1 = true := by decide +kernel
-- RailwayHouse$Vote.voteRows: 3722 steps
theorem ye68 : y_runE y_hn0 (ytb yw68) 100000 yc68 [] = true := by decide +kernel
-- RailwayHouse$Vote.voters: 191 steps
theorem ye69 : y_runE y_hn0 (ytb yw69) 100000 yc69 [] = true := by decide +kernel
-- RailwayHouse$Vote.writeDisk: 1693 steps
theorem ye70 : y_runE y_hn0 (ytb yw70) 100000 yc70 [yk70_0] = true := by decide +kernel
theorem yx70_0 : y_runC y_hn0 (ytb yw70) 100000 yc70 [yk70_0] yk70_0 = true := by decide +kernel
-- RailwayHouse$Ways.comeIn: 494 steps
theorem ye71 : y_runE y_hn0 (ytb yw71) 100000 yc71 [] = true := by decide +kernel
-- RailwayHouse$Ways.comeIn: 494 steps
theorem ye72 : y_runE y_hn0 (ytb yw72) 100000 yc72 [] = true := by decide +kernel
-- RailwayHouse$Ways.comeIn: 494 steps
theorem ye73 : y_runE y_hn0 (ytb yw73) 100000 yc73 [] = true := by decide +kernel
-- RailwayHouse$Ways.comeIn: 494 steps
theorem ye74 : y_runE y_hn0 (ytb yw74) 100000 yc74 [] = true := by decide +kernel
-- RailwayHouse$Ways.comeIn: 494 steps
theorem ye75 : y_runE y_hn0 (ytb yw75) 100000 yc75 [] = true := by decide +kernel
-- RailwayHouse$Ways.comeIn: 494 steps
theorem ye76 : y_runE y_hn0 (ytb yw76) 100000 yc76 [] = true := by decide +kernel
-- RailwayHouse$Ways.comeIn: 494 steps
theorem ye77 : y_runE y_hn0 (ytb yw77) 100000 yc77 [] = true := by decide +kernel
-- RailwayHouse$Ways.comeIn: 494 steps
theorem ye78 : y_runE y_hn0 (ytb yw78) 100000 yc78 [] = true := by decide +kernel
-- RailwayHouse$Ways.comeIn: 14 steps
theorem ye79 : y_runE y_hn0 (ytb yw79) 100000 yc79 [] = true := by decide +kernel
-- RailwayHouse$Ways.conflictOf: 792 steps
theorem ye80 : y_runE y_hn0 (ytb yw80) 100000 yc80 [] = true := by decide +kernel
-- RailwayHouse$Ways.findAll: 46 steps
theorem ye81 : y_runE y_hn0 (ytb yw81) 100000 yc81 [yk81_0] = true := by decide +kernel
theorem yx81_0 : y_runC y_hn0 (ytb yw81) 100000 yc81 [yk81_0] yk81_0 = true := by decide +kernel
-- RailwayHouse$Ways.findNeeds: 353 steps
theorem ye82 : y_runE y_hn0 (ytb yw82) 100000 yc82 [yk82_0, yk82_1, yk82_2, yk82_3] = true := by decide +kernel
theorem yx82_0 : y_runC y_hn0 (ytb yw82) 100000 yc82 [yk82_0, yk82_1, yk82_2, yk82_3] yk82_0 = true := by decide +kernel
theorem yx82_1 : y_runC y_hn0 (ytb yw82) 100000 yc82 [yk82_0, yk82_1, yk82_2, yk82_3] yk82_1 = true := by decide +kernel
theorem yx82_2 : y_runC y_hn0 (ytb yw82) 100000 yc82 [yk82_0, yk82_1, yk82_2, yk82_3] yk82_2 = true := by decide +kernel
theorem yx82_3 : y_runC y_hn0 (ytb yw82) 100000 yc82 [yk82_0, yk82_1, yk82_2, yk82_3] yk82_3 = true := by decide +kernel
-- RailwayHouse$Ways.findNeeds: 561 steps
theorem ye83 : y_runE y_hn0 (ytb yw83) 100000 yc83 [yk83_0, yk83_1, yk83_2, yk83_3, yk83_4, yk83_5] = true := by decide +kernel
theorem yx83_0 : y_runC y_hn0 (ytb yw83) 100000 yc83 [yk83_0, yk83_1, yk83_2, yk83_3, yk83_4, yk83_5] yk83_0 = true := by decide +kernel
theorem yx83_1 : y_runC y_hn0 (ytb yw83) 100000 yc83 [yk83_0, yk83_1, yk83_2, yk83_3, yk83_4, yk83_5] yk83_1 = true := by decide +kernel
theorem yx83_2 : y_runC y_hn0 (ytb yw83) 100000 yc83 [yk83_0, yk83_1, yk83_2, yk83_3, yk83_4, yk83_5] yk83_2 = true := by decide +kernel
theorem yx83_3 : y_runC y_hn0 (ytb yw83) 100000 yc83 [yk83_0, yk83_1, yk83_2, yk83_3, yk83_4, yk83_5] yk83_3 = true := by decide +kernel
theorem yx83_4 : y_runC y_hn0 (ytb yw83) 100000 yc83 [yk83_0, yk83_1, yk83_2, yk83_3, yk83_4, yk83_5] yk83_4 = true := by decide +kernel
theorem yx83_5 : y_runC y_hn0 (ytb yw83) 100000 yc83 [yk83_0, yk83_1, yk83_2, yk83_3, yk83_4, yk83_5] yk83_5 = true := by decide +kernel
