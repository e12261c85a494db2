-- RailwayHouse$Ways.comeIn: 8614 steps
theorem ye71 : y_runE y_hn0 (ytb yw71) 100000 yc71 [] = true := by decide +kernel
-- RailwayHouse$Ways.comeIn: 8614 steps
theorem ye72 : y_runE y_hn0 (ytb yw72) 100000 yc72 [] = true := by decide +kernel
