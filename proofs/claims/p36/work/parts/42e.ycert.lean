-- RailwayHouse$Vote.voters: 191 steps
theorem ye67 : y_runE y_hn0 (ytb yw67) 100000 yc67 [] = true := by decide +kernel
-- RailwayHouse$Vote.writeDisk: 1693 steps
theorem ye68 : y_runE y_hn0 (ytb yw68) 100000 yc68 [yk68_0] = true := by decide +kernel
theorem yx68_0 : y_runC y_hn0 (ytb yw68) 100000 yc68 [yk68_0] yk68_0 = true := by decide +kernel
-- RailwayHouse$Ways.comeIn: 494 steps
theorem ye69 : y_runE y_hn0 (ytb yw69) 100000 yc69 [] = true := by decide +kernel
-- RailwayHouse$Ways.comeIn: 494 steps
theorem ye70 : y_runE y_hn0 (ytb yw70) 100000 yc70 [] = true := by decide +kernel
-- RailwayHouse$Ways.comeIn: 494 steps
theorem ye71 : y_runE y_hn0 (ytb yw71) 100000 yc71 [] = true := by decide +kernel
-- RailwayHouse$Ways.comeIn: 494 steps
theorem ye72 : y_runE y_hn0 (ytb yw72) 100000 yc72 [] = true := by decide +kernel
-- RailwayHouse$Ways.comeIn: 494 steps
theorem ye73 : y_runE y_hn0 (ytb yw73) 100000 yc73 [] = true := by decide +kernel
-- RailwayHouse$Ways.comeIn: 494 steps
theorem ye74 : y_runE y_hn0 (ytb yw74) 100000 yc74 [] = true := by decide +kernel
-- RailwayHouse$Ways.comeIn: 494 steps
theorem ye75 : y_runE y_hn0 (ytb yw75) 100000 yc75 [] = true := by decide +kernel
-- RailwayHouse$Ways.comeIn: 494 steps
theorem ye76 : y_runE y_hn0 (ytb yw76) 100000 yc76 [] = true := by decide +kernel
-- RailwayHouse$Ways.comeIn: 14 steps
theorem ye77 : y_runE y_hn0 (ytb yw77) 100000 yc77 [] = true := by decide +kernel
-- RailwayHouse$Ways.conflictOf: 792 steps
theorem ye78 : y_runE y_hn0 (ytb yw78) 100000 yc78 [] = true := by decide +kernel
-- RailwayHouse$Ways.findAll: 46 steps
theorem ye79 : y_runE y_hn0 (ytb yw79) 100000 yc79 [yk79_0] = true := by decide +kernel
theorem yx79_0 : y_runC y_hn0 (ytb yw79) 100000 yc79 [yk79_0] yk79_0 = true := by decide +kernel
-- RailwayHouse$Ways.findNeeds: 353 steps
theorem ye80 : y_runE y_hn0 (ytb yw80) 100000 yc80 [yk80_0, yk80_1, yk80_2, yk80_3] = true := by decide +kernel
theorem yx80_0 : y_runC y_hn0 (ytb yw80) 100000 yc80 [yk80_0, yk80_1, yk80_2, yk80_3] yk80_0 = true := by decide +kernel
theorem yx80_1 : y_runC y_hn0 (ytb yw80) 100000 yc80 [yk80_0, yk80_1, yk80_2, yk80_3] yk80_1 = true := by decide +kernel
theorem yx80_2 : y_runC y_hn0 (ytb yw80) 100000 yc80 [yk80_0, yk80_1, yk80_2, yk80_3] yk80_2 = true := by decide +kernel
theorem yx80_3 : y_runC y_hn0 (ytb yw80) 100000 yc80 [yk80_0, yk80_1, yk80_2, yk80_3] yk80_3 = true := by decide +kernel
-- RailwayHouse$Ways.findNeeds: 561 steps
theorem ye81 : y_runE y_hn0 (ytb yw81) 100000 yc81 [yk81_0, yk81_1, yk81_2, yk81_3, yk81_4, yk81_5] = true := by decide +kernel
theorem yx81_0 : y_runC y_hn0 (ytb yw81) 100000 yc81 [yk81_0, yk81_1, yk81_2, yk81_3, yk81_4, yk81_5] yk81_0 = true := by decide +kernel
theorem yx81_1 : y_runC y_hn0 (ytb yw81) 100000 yc81 [yk81_0, yk81_1, yk81_2, yk81_3, yk81_4, yk81_5] yk81_1 = true := by decide +kernel
theorem yx81_2 : y_runC y_hn0 (ytb yw81) 100000 yc81 [yk81_0, yk81_1, yk81_2, yk81_3, yk81_4, yk81_5] yk81_2 = true := by decide +kernel
theorem yx81_3 : y_runC y_hn0 (ytb yw81) 100000 yc81 [yk81_0, yk81_1, yk81_2, yk81_3, yk81_4, yk81_5] yk81_3 = true := by decide +kernel
theorem yx81_4 : y_runC y_hn0 (ytb yw81) 100000 yc81 [yk81_0, yk81_1, yk81_2, yk81_3, yk81_4, yk81_5] yk81_4 = true := by decide +kernel
theorem yx81_5 : y_runC y_hn0 (ytb yw81) 100000 yc81 [yk81_0, yk81_1, yk81_2, yk81_3, yk81_4, yk81_5] yk81_5 = true := by decide +kernel
-- RailwayHouse$Ways.findNeeds: 769 steps
theorem ye82 : y_runE y_hn0 (ytb yw82) 100000 yc82 [yk82_0, yk82_1, yk82_2, yk82_3, yk82_4, yk82_5, yk82_6, yk82_7] = true := by decide +kernel
theorem yx82_0 : y_runC y_hn0 (ytb yw82) 100000 yc82 [yk82_0, yk82_1, yk82_2, yk82_3, yk82_4, yk82_5, yk82_6, yk82_7] yk82_0 = true := by decide +kernel
theorem yx82_1 : y_runC y_hn0 (ytb yw82) 100000 yc82 [yk82_0, yk82_1, yk82_2, yk82_3, yk82_4, yk82_5, yk82_6, yk82_7] yk82_1 = true := by decide +kernel
theorem yx82_2 : y_runC y_hn0 (ytb yw82) 100000 yc82 [yk82_0, yk82_1, yk82_2, yk82_3, yk82_4, yk82_5, yk82_6, yk82_7] yk82_2 = true := by decide +kernel
theorem yx82_3 : y_runC y_hn0 (ytb yw82) 100000 yc82 [yk82_0, yk82_1, yk82_2, yk82_3, yk82_4, yk82_5, yk82_6, yk82_7] yk82_3 = true := by decide +kernel
theorem yx82_4 : y_runC y_hn0 (ytb yw82) 100000 yc82 [yk82_0, yk82_1, yk82_2, yk82_3, yk82_4, yk82_5, yk82_6, yk82_7] yk82_4 = true := by decide +kernel
theorem yx82_5 : y_runC y_hn0 (ytb yw82) 100000 yc82 [yk82_0, yk82_1, yk82_2, yk82_3, yk82_4, yk82_5, yk82_6, yk82_7] yk82_5 = true := by decide +kernel
theorem yx82_6 : y_runC y_hn0 (ytb yw82) 100000 yc82 [yk82_0, yk82_1, yk82_2, yk82_3, yk82_4, yk82_5, yk82_6, yk82_7] yk82_6 = true := by decide +kernel
theorem yx82_7 : y_runC y_hn0 (ytb yw82) 100000 yc82 [yk82_0, yk82_1, yk82_2, yk82_3, yk82_4, yk82_5, yk82_6, yk82_7] yk82_7 = true := by decide +kernel
-- RailwayHouse$Ways.findNeeds: 977 steps
theorem ye83 : y_runE y_hn0 (ytb yw83) 100000 yc83 [yk83_0, yk83_1, yk83_2, yk83_3, yk83_4, yk83_5, yk83_6, yk83_7, yk83_8, yk83_9] = true := by decide +kernel
theorem yx83_0 : y_runC y_hn0 (ytb yw83) 100000 yc83 [yk83_0, yk83_1, yk83_2, yk83_3, yk83_4, yk83_5, yk83_6, yk83_7, yk83_8, yk83_9] yk83_0 = true := by decide +kernel
theorem yx83_1 : y_runC y_hn0 (ytb yw83) 100000 yc83 [yk83_0, yk83_1, yk83_2, yk83_3, yk83_4, yk83_5, yk83_6, yk83_7, yk83_8, yk83_9] yk83_1 = true := by decide +kernel
theorem yx83_2 : y_runC y_hn0 (ytb yw83) 100000 yc83 [yk83_0, yk83_1, yk83_2, yk83_3, yk83_4, yk83_5, yk83_6, yk83_7, yk83_8, yk83_9] yk83_2 = true := by decide +kernel
theorem yx83_3 : y_runC y_hn0 (ytb yw83) 100000 yc83 [yk83_0, yk83_1, yk83_2, yk83_3, yk83_4, yk83_5, yk83_6, yk83_7, yk83_8, yk83_9] yk83_3 = true := by decide +kernel
theorem yx83_4 : y_runC y_hn0 (ytb yw83) 100000 yc83 [yk83_0, yk83_1, yk83_2, yk83_3, yk83_4, yk83_5, yk83_6, yk83_7, yk83_8, yk83_9] yk83_4 = true := by decide +kernel
theorem yx83_5 : y_runC y_hn0 (ytb yw83) 100000 yc83 [yk83_0, yk83_1, yk83_2, yk83_3, yk83_4, yk83_5, yk83_6, yk83_7, yk83_8, yk83_9] yk83_5 = true := by decide +kernel
theorem yx83_6 : y_runC y_hn0 (ytb yw83) 100000 yc83 [yk83_0, yk83_1, yk83_2, yk83_3, yk83_4, yk83_5, yk83_6, yk83_7, yk83_8, yk83_9] yk83_6 = true := by decide +kernel
theorem yx83_7 : y_runC y_hn0 (ytb yw83) 100000 yc83 [yk83_0, yk83_1, yk83_2, yk83_3, yk83_4, yk83_5, yk83_6, yk83_7, yk83_8, yk83_9] yk83_7 = true := by decide +kernel
theorem yx83_8 : y_runC y_hn0 (ytb yw83) 100000 yc83 [yk83_0, yk83_1, yk83_2, yk83_3, yk83_4, yk83_5, yk83_6, yk83_7, yk83_8, yk83_9] yk83_8 = true := by decide +kernel
theorem yx83_9 : y_runC y_hn0 (ytb yw83) 100000 yc83 [yk83_0, yk83_1, yk83_2, yk83_3, yk83_4, yk83_5, yk83_6, yk83_7, yk83_8, yk83_9] yk83_9 = true := by decide +kernel
-- RailwayHouse$Ways.findNeeds: 1185 steps
theorem ye84 : y_runE y_hn0 (ytb yw84) 100000 yc84 [yk84_0, yk84_1, yk84_2, yk84_3, yk84_4, yk84_5, yk84_6, yk84_7, yk84_8, yk84_9, yk84_10, yk84_11] = true := by decide +kernel
theorem yx84_0 : y_runC y_hn0 (ytb yw84) 100000 yc84 [yk84_0, yk84_1, yk84_2, yk84_3, yk84_4, yk84_5, yk84_6, yk84_7, yk84_8, yk84_9, yk84_10, yk84_11] yk84_0 = true := by decide +kernel
theorem yx84_1 : y_runC y_hn0 (ytb yw84) 100000 yc84 [yk84_0, yk84_1, yk84_2, yk84_3, yk84_4, yk84_5, yk84_6, yk84_7, yk84_8, yk84_9, yk84_10, yk84_11] yk84_1 = true := by decide +kernel
theorem yx84_2 : y_runC y_hn0 (ytb yw84) 100000 yc84 [yk84_0, yk84_1, yk84_2, yk84_3, yk84_4, yk84_5, yk84_6, yk84_7, yk84_8, yk84_9, yk84_10, yk84_11] yk84_2 = true := by decide +kernel
theorem yx84_3 : y_runC y_hn0 (ytb yw84) 100000 yc84 [yk84_0, yk84_1, yk84_2, yk84_3, yk84_4, yk84_5, yk84_6, yk84_7, yk84_8, yk84_9, yk84_10, yk84_11] yk84_3 = true := by decide +kernel
theorem yx84_4 : y_runC y_hn0 (ytb yw84) 100000 yc84 [yk84_0, yk84_1, yk84_2, yk84_3, yk84_4, yk84_5, yk84_6, yk84_7, yk84_8, yk84_9, yk84_10, yk84_11] yk84_4 = true := by decide +kernel
theorem yx84_5 : y_runC y_hn0 (ytb yw84) 100000 yc84 [yk84_0, yk84_1, yk84_2, yk84_3, yk84_4, yk84_5, yk84_6, yk84_7, yk84_8, yk84_9, yk84_10, yk84_11] yk84_5 = true := by decide +kernel
theorem yx84_6 : y_runC y_hn0 (ytb yw84) 100000 yc84 [yk84_0, yk84_1, yk84_2, yk84_3, yk84_4, yk84_5, yk84_6, yk84_7, yk84_8, yk84_9, yk84_10, yk84_11] yk84_6 = true := by decide +kernel
theorem yx84_7 : y_runC y_hn0 (ytb yw84) 100000 yc84 [yk84_0, yk84_1, yk84_2, yk84_3, yk84_4, yk84_5, yk84_6, yk84_7, yk84_8, yk84_9, yk84_10, yk84_11] yk84_7 = true := by decide +kernel
theorem yx84_8 : y_runC y_hn0 (ytb yw84) 100000 yc84 [yk84_0, yk84_1, yk84_2, yk84_3, yk84_4, yk84_5, yk84_6, yk84_7, yk84_8, yk84_9, yk84_10, yk84_11] yk84_8 = true := by decide +kernel
theorem yx84_9 : y_runC y_hn0 (ytb yw84) 100000 yc84 [yk84_0, yk84_1, yk84_2, yk84_3, yk84_4, yk84_5, yk84_6, yk84_7, yk84_8, yk84_9, yk84_10, yk84_11] yk84_9 = true := by decide +kernel
theorem yx84_10 : y_runC y_hn0 (ytb yw84) 100000 yc84 [yk84_0, yk84_1, yk84_2, yk84_3, yk84_4, yk84_5, yk84_6, yk84_7, yk84_8, yk84_9, yk84_10, yk84_11] yk84_10 = true := by decide +kernel
theorem yx84_11 : y_runC y_hn0 (ytb yw84) 100000 yc84 [yk84_0, yk84_1, yk84_2, yk84_3, yk84_4, yk84_5, yk84_6, yk84_7, yk84_8, yk84_9, yk84_10, yk84_11] yk84_11 = true := by decide +kernel
-- RailwayHouse$Ways.findNeeds: 1393 steps
theorem ye85 : y_runE y_hn0 (ytb yw85) 100000 yc85 [yk85_0, yk85_1, yk85_2, yk85_3, yk85_4, yk85_5, yk85_6, yk85_7, yk85_8, yk85_9, yk85_10, yk85_11, yk85_12, yk85_13] = true := by decide +kernel
theorem yx85_0 : y_runC y_hn0 (ytb yw85) 100000 yc85 [yk85_0, yk85_1, yk85_2, yk85_3, yk85_4, yk85_5, yk85_6, yk85_7, yk85_8, yk85_9, yk85_10, yk85_11, yk85_12, yk85_13] yk85_0 = true := by decide +kernel
theorem yx85_1 : y_runC y_hn0 (ytb yw85) 100000 yc85 [yk85_0, yk85_1, yk85_2, yk85_3, yk85_4, yk85_5, yk85_6, yk85_7, yk85_8, yk85_9, yk85_10, yk85_11, yk85_12, yk85_13] yk85_1 = true := by decide +kernel
theorem yx85_2 : y_runC y_hn0 (ytb yw85) 100000 yc85 [yk85_0, yk85_1, yk85_2, yk85_3, yk85_4, yk85_5, yk85_6, yk85_7, yk85_8, yk85_9, yk85_10, yk85_11, yk85_12, yk85_13] yk85_2 = true := by decide +kernel
theorem yx85_3 : y_runC y_hn0 (ytb yw85) 100000 yc85 [yk85_0, yk85_1, yk85_2, yk85_3, yk85_4, yk85_5, yk85_6, yk85_7, yk85_8, yk85_9, yk85_10, yk85_11, yk85_12, yk85_13] yk85_3 = true := by decide +kernel
theorem yx85_4 : y_runC y_hn0 (ytb yw85) 100000 yc85 [yk85_0, yk85_1, yk85_2, yk85_3, yk85_4, yk85_5, yk85_6, yk85_7, yk85_8, yk85_9, yk85_10, yk85_11, yk85_12, yk85_13] yk85_4 = true := by decide +kernel
theorem yx85_5 : y_runC y_hn0 (ytb yw85) 100000 yc85 [yk85_0, yk85_1, yk85_2, yk85_3, yk85_4, yk85_5, yk85_6, yk85_7, yk85_8, yk85_9, yk85_10, yk85_11, yk85_12, yk85_13] yk85_5 = true := by decide +kernel
theorem yx85_6 : y_runC y_hn0 (ytb yw85) 100000 yc85 [yk85_0, yk85_1, yk85_2, yk85_3, yk85_4, yk85_5, yk85_6, yk85_7, yk85_8, yk85_9, yk85_10, yk85_11, yk85_12, yk85_13] yk85_6 = true := by decide +kernel
theorem yx85_7 : y_runC y_hn0 (ytb yw85) 100000 yc85 [yk85_0, yk85_1, yk85_2, yk85_3, yk85_4, yk85_5, yk85_6, yk85_7, yk85_8, yk85_9, yk85_10, yk85_11, yk85_12, yk85_13] yk85_7 = true := by decide +kernel
theorem yx85_8 : y_runC y_hn0 (ytb yw85) 100000 yc85 [yk85_0, yk85_1, yk85_2, yk85_3, yk85_4, yk85_5, yk85_6, yk85_7, yk85_8, yk85_9, yk85_10, yk85_11, yk85_12, yk85_13] yk85_8 = true := by decide +kernel
theorem yx85_9 : y_runC y_hn0 (ytb yw85) 100000 yc85 [yk85_0, yk85_1, yk85_2, yk85_3, yk85_4, yk85_5, yk85_6, yk85_7, yk85_8, yk85_9, yk85_10, yk85_11, yk85_12, yk85_13] yk85_9 = true := by decide +kernel
theorem yx85_10 : y_runC y_hn0 (ytb yw85) 100000 yc85 [yk85_0, yk85_1, yk85_2, yk85_3, yk85_4, yk85_5, yk85_6, yk85_7, yk85_8, yk85_9, yk85_10, yk85_11, yk85_12, yk85_13] yk85_10 = true := by decide +kernel
theorem yx85_11 : y_runC y_hn0 (ytb yw85) 100000 yc85 [yk85_0, yk85_1, yk85_2, yk85_3, yk85_4, yk85_5, yk85_6, yk85_7, yk85_8, yk85_9, yk85_10, yk85_11, yk85_12, yk85_13] yk85_11 = true := by decide +kernel
theorem yx85_12 : y_runC y_hn0 (ytb yw85) 100000 yc85 [yk85_0, yk85_1, yk85_2, yk85_3, yk85_4, yk85_5, yk85_6, yk85_7, yk85_8, yk85_9, yk85_10, yk85_11, yk85_12, yk85_13] yk85_12 = true := by decide +kernel
theorem yx85_13 : y_runC y_hn0 (ytb yw85) 100000 yc85 [yk85_0, yk85_1, yk85_2, yk85_3, yk85_4, yk85_5, yk85_6, yk85_7, yk85_8, yk85_9, yk85_10, yk85_11, yk85_12, yk85_13] yk85_13 = true := by decide +kernel
-- RailwayHouse$Ways.findNeeds: 1601 steps
theorem ye86 : y_runE y_hn0 (ytb yw86) 100000 yc86 [yk86_0, yk86_1, yk86_2, yk86_3, yk86_4, yk86_5, yk86_6, yk86_7, yk86_8, yk86_9, yk86_10, yk86_11, yk86_12, yk86_13, yk86_14, yk86_15] = true := by decide +kernel
theorem yx86_0 : y_runC y_hn0 (ytb yw86) 100000 yc86 [yk86_0, yk86_1, yk86_2, yk86_3, yk86_4, yk86_5, yk86_6, yk86_7, yk86_8, yk86_9, yk86_10, yk86_11, yk86_12, yk86_13, yk86_14, yk86_15] yk86_0 = true := by decide +kernel
theorem yx86_1 : y_runC y_hn0 (ytb yw86) 100000 yc86 [yk86_0, yk86_1, yk86_2, yk86_3, yk86_4, yk86_5, yk86_6, yk86_7, yk86_8, yk86_9, yk86_10, yk86_11, yk86_12, yk86_13, yk86_14, yk86_15] yk86_1 = true := by decide +kernel
theorem yx86_2 : y_runC y_hn0 (ytb yw86) 100000 yc86 [yk86_0, yk86_1, yk86_2, yk86_3, yk86_4, yk86_5, yk86_6, yk86_7, yk86_8, yk86_9, yk86_10, yk86_11, yk86_12, yk86_13, yk86_14, yk86_15] yk86_2 = true := by decide +kernel
theorem yx86_3 : y_runC y_hn0 (ytb yw86) 100000 yc86 [yk86_0, yk86_1, yk86_2, yk86_3, yk86_4, yk86_5, yk86_6, yk86_7, yk86_8, yk86_9, yk86_10, yk86_11, yk86_12, yk86_13, yk86_14, yk86_15] yk86_3 = true := by decide +kernel
theorem yx86_4 : y_runC y_hn0 (ytb yw86) 100000 yc86 [yk86_0, yk86_1, yk86_2, yk86_3, yk86_4, yk86_5, yk86_6, yk86_7, yk86_8, yk86_9, yk86_10, yk86_11, yk86_12, yk86_13, yk86_14, yk86_15] yk86_4 = true := by decide +kernel
theorem yx86_5 : y_runC y_hn0 (ytb yw86) 100000 yc86 [yk86_0, yk86_1, yk86_2, yk86_3, yk86_4, yk86_5, yk86_6, yk86_7, yk86_8, yk86_9, yk86_10, yk86_11, yk86_12, yk86_13, yk86_14, yk86_15] yk86_5 = true := by decide +kernel
theorem yx86_6 : y_runC y_hn0 (ytb yw86) 100000 yc86 [yk86_0, yk86_1, yk86_2, yk86_3, yk86_4, yk86_5, yk86_6, yk86_7, yk86_8, yk86_9, yk86_10, yk86_11, yk86_12, yk86_13, yk86_14, yk86_15] yk86_6 = true := by decide +kernel
theorem yx86_7 : y_runC y_hn0 (ytb yw86) 100000 yc86 [yk86_0, yk86_1, yk86_2, yk86_3, yk86_4, yk86_5, yk86_6, yk86_7, yk86_8, yk86_9, yk86_10, yk86_11, yk86_12, yk86_13, yk86_14, yk86_15] yk86_7 = true := by decide +kernel
theorem yx86_8 : y_runC y_hn0 (ytb yw86) 100000 yc86 [yk86_0, yk86_1, yk86_2, yk86_3, yk86_4, yk86_5, yk86_6, yk86_7, yk86_8, yk86_9, yk86_10, yk86_11, yk86_12, yk86_13, yk86_14, yk86_15] yk86_8 = true := by decide +kernel
theorem yx86_9 : y_runC y_hn0 (ytb yw86) 100000 yc86 [yk86_0, yk86_1, yk86_2, yk86_3, yk86_4, yk86_5, yk86_6, yk86_7, yk86_8, yk86_9, yk86_10, yk86_11, yk86_12, yk86_13, yk86_14, yk86_15] yk86_9 = true := by decide +kernel
theorem yx86_10 : y_runC y_hn0 (ytb yw86) 100000 yc86 [yk86_0, yk86_1, yk86_2, yk86_3, yk86_4, yk86_5, yk86_6, yk86_7, yk86_8, yk86_9, yk86_10, yk86_11, yk86_12, yk86_13, yk86_14, yk86_15] yk86_10 = true := by decide +kernel
theorem yx86_11 : y_runC y_hn0 (ytb yw86) 100000 yc86 [yk86_0, yk86_1, yk86_2, yk86_3, yk86_4, yk86_5, yk86_6, yk86_7, yk86_8, yk86_9, yk86_10, yk86_11, yk86_12, yk86_13, yk86_14, yk86_15] yk86_11 = true := by decide +kernel
theorem yx86_12 : y_runC y_hn0 (ytb yw86) 100000 yc86 [yk86_0, yk86_1, yk86_2, yk86_3, yk86_4, yk86_5, yk86_6, yk86_7, yk86_8, yk86_9, yk86_10, yk86_11, yk86_12, yk86_13, yk86_14, yk86_15] yk86_12 = true := by decide +kernel
theorem yx86_13 : y_runC y_hn0 (ytb yw86) 100000 yc86 [yk86_0, yk86_1, yk86_2, yk86_3, yk86_4, yk86_5, yk86_6, yk86_7, yk86_8, yk86_9, yk86_10, yk86_11, yk86_12, yk86_13, yk86_14, yk86_15] yk86_13 = true := by decide +kernel
theorem yx86_14 : y_runC y_hn0 (ytb yw86) 100000 yc86 [yk86_0, yk86_1, yk86_2, yk86_3, yk86_4, yk86_5, yk86_6, yk86_7, yk86_8, yk86_9, yk86_10, yk86_11, yk86_12, yk86_13, yk86_14, yk86_15] yk86_14 = true := by decide +kernel
theorem yx86_15 : y_runC y_hn0 (ytb yw86) 100000 yc86 [yk86_0, yk86_1, yk86_2, yk86_3, yk86_4, yk86_5, yk86_6, yk86_7, yk86_8, yk86_9, yk86_10, yk86_11, yk86_12, yk86_13, yk86_14, yk86_15] yk86_15 = true := by decide +kernel
