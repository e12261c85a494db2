-- RailwayHouse$Ways.comeIn: 8614 steps
theorem ye75 : y_runE y_hn0 (ytb yw75) 100000 yc75 [] = true := by decide +kernel
-- RailwayHouse$Ways.comeIn: 8614 steps
theorem ye76 : y_runE y_hn0 (ytb yw76) 100000 yc76 [] = true := by decide +kernel
