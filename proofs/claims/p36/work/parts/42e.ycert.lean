-- RailwayHouse$Vote.passTick: 231 steps
theorem ye64 : y_runE y_hn0 (ytb yw64) 100000 yc64 [] = true := by decide +kernel
-- RailwayHouse$Vote.resetByHand: 526 steps
theorem ye65 : y_runE y_hn0 (ytb yw65) 100000 yc65 [] = true := by decide +kernel
-- RailwayHouse$Vote.startFromDisk: 215 steps
theorem ye66 : y_runE y_hn0 (ytb yw66) 100000 yc66 [yk66_0, yk66_1] = true := by decide +kernel
theorem yx66_0 : y_runC y_hn0 (ytb yw66) 100000 yc66 [yk66_0, yk66_1] yk66_0 = true := by decide +kernel
theorem yx66_1 : y_runC y_hn0 (ytb yw66) 100000 yc66 [yk66_0, yk66_1] yk66_1 = true := by decide +kernel
-- RailwayHouse$Vote.voteRows: 3722 steps
theorem ye67 : y_runE y_hn0 (ytb yw67) 100000 yc67 [] = true := by decide +kernel
-- RailwayHouse$Vote.voters: 191 steps
theorem ye68 : y_runE y_hn0 (ytb yw68) 100000 yc68 [] = true := by decide +kernel
-- RailwayHouse$Vote.writeDisk: 1693 steps
theorem ye69 : y_runE y_hn0 (ytb yw69) 100000 yc69 [yk69_0] = true := by decide +kernel
theorem yx69_0 : y_runC y_hn0 (ytb yw69) 100000 yc69 [yk69_0] yk69_0 = true := by decide +kernel
-- RailwayHouse$Ways.comeIn: 8614 steps
theorem ye70 : y_runE y_hn0 (ytb yw70) 100000 yc70 [] = true := by decide +kernel
