-- RailwayHouse$Vote.voters: 191 steps
theorem ye67 : y_runE y_hn0 (ytb yw67) 100000 yc67 [] = true := by decide +kernel
-- RailwayHouse$Vote.writeDisk: 1693 steps
theorem ye68 : y_runE y_hn0 (ytb yw68) 100000 yc68 [yk68_0] = true := by decide +kernel
theorem yx68_0 : y_runC y_hn0 (ytb yw68) 100000 yc68 [yk68_0] yk68_0 = true := by decide +kernel
-- RailwayHouse$Ways.comeIn: 8614 steps
theorem ye69 : y_runE y_hn0 (ytb yw69) 100000 yc69 [] = true := by decide +kernel
-- RailwayHouse$Ways.comeIn: 8614 steps
theorem ye70 : y_runE y_hn0 (ytb yw70) 100000 yc70 [] = true := by decide +kernel
