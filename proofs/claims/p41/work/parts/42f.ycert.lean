-- RailwayHouse$Vote.passTick: 231 steps
theorem ye69 : y_runE y_hn0 (ytb yw69) 100000 yc69 [] = true := by decide +kernel
-- RailwayHouse$Vote.resetByHand: 526 steps
theorem ye70 : y_runE y_hn0 (ytb yw70) 100000 yc70 [] = true := by decide +kernel
-- RailwayHouse$Vote.startFromDisk: 215 steps
theorem ye71 : y_runE y_hn0 (ytb yw71) 100000 yc71 [yk71_0, yk71_1] = true := by decide +kernel
theorem yx71_0 : y_runC y_hn0 (ytb yw71) 100000 yc71 [yk71_0, yk71_1] yk71_0 = true := by decide +kernel
theorem yx71_1 : y_runC y_hn0 (ytb yw71) 100000 yc71 [yk71_0, yk71_1] yk71_1 = true := by decide +kernel
-- RailwayHouse$Vote.voteRows: 3722 steps
theorem ye72 : y_runE y_hn0 (ytb yw72) 100000 yc72 [] = true := by decide +kernel
-- RailwayHouse$Vote.voters: 191 steps
theorem ye73 : y_runE y_hn0 (ytb yw73) 100000 yc73 [] = true := by decide +kernel
-- RailwayHouse$Vote.writeDisk: 1693 steps
theorem ye74 : y_runE y_hn0 (ytb yw74) 100000 yc74 [yk74_0] = true := by decide +kernel
theorem yx74_0 : y_runC y_hn0 (ytb yw74) 100000 yc74 [yk74_0] yk74_0 = true := by decide +kernel
-- RailwayHouse$Ways.comeIn: 494 steps
theorem ye75 : y_runE y_hn0 (ytb yw75) 100000 yc75 [] = true := by decide +kernel
-- RailwayHouse$Ways.comeIn: 494 steps
theorem ye76 : y_runE y_hn0 (ytb yw76) 100000 yc76 [] = true := by decide +kernel
-- RailwayHouse$Ways.comeIn: 494 steps
theorem ye77 : y_runE y_hn0 (ytb yw77) 100000 yc77 [] = true := by decide +kernel
-- RailwayHouse$Ways.comeIn: 494 steps
theorem ye78 : y_runE y_hn0 (ytb yw78) 100000 yc78 [] = true := by decide +kernel
-- RailwayHouse$Ways.comeIn: 494 steps
theorem ye79 : y_runE y_hn0 (ytb yw79) 100000 yc79 [] = true := by decide +kernel
-- RailwayHouse$Ways.comeIn: 494 steps
theorem ye80 : y_runE y_hn0 (ytb yw80) 100000 yc80 [] = true := by decide +kernel
-- RailwayHouse$Ways.comeIn: 494 steps
theorem ye81 : y_runE y_hn0 (ytb yw81) 100000 yc81 [] = true := by decide +kernel
-- RailwayHouse$Ways.comeIn: 494 steps
theorem ye82 : y_runE y_hn0 (ytb yw82) 100000 yc82 [] = true := by decide +kernel
-- RailwayHouse$Ways.comeIn: 14 steps
theorem ye83 : y_runE y_hn0 (ytb yw83) 100000 yc83 [] = true := by decide +kernel
-- RailwayHouse$Ways.conflictOf: 792 steps
theorem ye84 : y_runE y_hn0 (ytb yw84) 100000 yc84 [] = true := by decide +kernel
-- RailwayHouse$Ways.findAll: 46 steps
theorem ye85 : y_runE y_hn0 (ytb yw85) 100000 yc85 [yk85_0] = true := by decide +kernel
theorem yx85_0 : y_runC y_hn0 (ytb yw85) 100000 yc85 [yk85_0] yk85_0 = true := by decide +kernel
-- RailwayHouse$Ways.findNeeds: 353 steps
theorem ye86 : y_runE y_hn0 (ytb yw86) 100000 yc86 [yk86_0, yk86_1, yk86_2, yk86_3] = true := by decide +kernel
theorem yx86_0 : y_runC y_hn0 (ytb yw86) 100000 yc86 [yk86_0, yk86_1, yk86_2, yk86_3] yk86_0 = true := by decide +kernel
theorem yx86_1 : y_runC y_hn0 (ytb yw86) 100000 yc86 [yk86_0, yk86_1, yk86_2, yk86_3] yk86_1 = true := by decide +kernel
theorem yx86_2 : y_runC y_hn0 (ytb yw86) 100000 yc86 [yk86_0, yk86_1, yk86_2, yk86_3] yk86_2 = true := by decide +kernel
theorem yx86_3 : y_runC y_hn0 (ytb yw86) 100000 yc86 [yk86_0, yk86_1, yk86_2, yk86_3] yk86_3 = true := by decide +kernel
-- RailwayHouse$Ways.findNeeds: 561 steps
theorem ye87 : y_runE y_hn0 (ytb yw87) 100000 yc87 [yk87_0, yk87_1, yk87_2, yk87_3, yk87_4, yk87_5] = true := by decide +kernel
theorem yx87_0 : y_runC y_hn0 (ytb yw87) 100000 yc87 [yk87_0, yk87_1, yk87_2, yk87_3, yk87_4, yk87_5] yk87_0 = true := by decide +kernel
theorem yx87_1 : y_runC y_hn0 (ytb yw87) 100000 yc87 [yk87_0, yk87_1, yk87_2, yk87_3, yk87_4, yk87_5] yk87_1 = true := by decide +kernel
theorem yx87_2 : y_runC y_hn0 (ytb yw87) 100000 yc87 [yk87_0, yk87_1, yk87_2, yk87_3, yk87_4, yk87_5] yk87_2 = true := by decide +kernel
theorem yx87_3 : y_runC y_hn0 (ytb yw87) 100000 yc87 [yk87_0, yk87_1, yk87_2, yk87_3, yk87_4, yk87_5] yk87_3 = true := by decide +kernel
theorem yx87_4 : y_runC y_hn0 (ytb yw87) 100000 yc87 [yk87_0, yk87_1, yk87_2, yk87_3, yk87_4, yk87_5] yk87_4 = true := by decide +kernel
theorem yx87_5 : y_runC y_hn0 (ytb yw87) 100000 yc87 [yk87_0, yk87_1, yk87_2, yk87_3, yk87_4, yk87_5] yk87_5 = true := by decide +kernel
