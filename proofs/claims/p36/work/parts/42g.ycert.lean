-- RailwayHouse$Ways.comeIn: 8614 steps
theorem ye73 : y_runE y_hn0 (ytb yw73) 100000 yc73 [] = true := by decide +kernel
-- RailwayHouse$Ways.comeIn: 8614 steps
theorem ye74 : y_runE y_hn0 (ytb yw74) 100000 yc74 [] = true := by decide +kernel
