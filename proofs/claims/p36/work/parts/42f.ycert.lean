-- RailwayHouse$Vote.passTick: 231 steps
theorem ye50 : y_runE y_hn0 (ytb yw50) 100000 yc50 [] = true := by decide +kernel
-- RailwayHouse$Vote.resetByHand: 526 steps
theorem ye51 : y_runE y_hn0 (ytb yw51) 100000 yc51 [] = true := by decide +kernel
-- RailwayHouse$Vote.startFromDisk: 215 steps
theorem ye52 : y_runE y_hn0 (ytb yw52) 100000 yc52 [yk52_0, yk52_1] = true := by decide +kernel
theorem yx52_0 : y_runC y_hn0 (ytb yw52) 100000 yc52 [yk52_0, yk52_1] yk52_0 = true := by decide +kernel
theorem yx52_1 : y_runC y_hn0 (ytb yw52) 100000 yc52 [yk52_0, yk52_1] yk52_1 = true := by decide +kernel
-- RailwayHouse$Vote.voteRows: 3722 steps
theorem ye53 : y_runE y_hn0 (ytb yw53) 100000 yc53 [] = true := by decide +kernel
-- RailwayHouse$Vote.voters: 191 steps
theorem ye54 : y_runE y_hn0 (ytb yw54) 100000 yc54 [] = true := by decide +kernel
-- RailwayHouse$Vote.writeDisk: 1693 steps
theorem ye55 : y_runE y_hn0 (ytb yw55) 100000 yc55 [yk55_0] = true := by decide +kernel
theorem yx55_0 : y_runC y_hn0 (ytb yw55) 100000 yc55 [yk55_0] yk55_0 = true := by decide +kernel
