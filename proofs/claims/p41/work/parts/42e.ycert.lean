-- RailwayHouse$Reports.forget: 75 steps
theorem ye54 : y_runE y_hn0 (ytb yw54) 100000 yc54 [yk54_0] = true := by decide +kernel
theorem yx54_0 : y_runC y_hn0 (ytb yw54) 100000 yc54 [yk54_0] yk54_0 = true := by decide +kernel
-- RailwayHouse$Reports.freeAll: 37 steps
theorem ye55 : y_runE y_hn0 (ytb yw55) 100000 yc55 [yk55_0] = true := by decide +kernel
theorem yx55_0 : y_runC y_hn0 (ytb yw55) 100000 yc55 [yk55_0] yk55_0 = true := by decide +kernel
-- RailwayHouse$Timetable.begin: 55 steps
theorem ye56 : y_runE y_hn0 (ytb yw56) 100000 yc56 [yk56_0] = true := by decide +kernel
theorem yx56_0 : y_runC y_hn0 (ytb yw56) 100000 yc56 [yk56_0] yk56_0 = true := by decide +kernel
-- RailwayHouse$Timetable.endHolds: 91 steps
theorem ye57 : y_runE y_hn0 (ytb yw57) 100000 yc57 [yk57_0] = true := by decide +kernel
theorem yx57_0 : y_runC y_hn0 (ytb yw57) 100000 yc57 [yk57_0] yk57_0 = true := by decide +kernel
-- RailwayHouse$Timetable.firstSeat: 161 steps
theorem ye58 : y_runE y_hn0 (ytb yw58) 100000 yc58 [yk58_0, yk58_1] = true := by decide +kernel
theorem yx58_0 : y_runC y_hn0 (ytb yw58) 100000 yc58 [yk58_0, yk58_1] yk58_0 = true := by decide +kernel
theorem yx58_1 : y_runC y_hn0 (ytb yw58) 100000 yc58 [yk58_0, yk58_1] yk58_1 = true := by decide +kernel
-- RailwayHouse$Train.on: 41 steps
theorem ye59 : y_runE y_hn0 (ytb yw59) 100000 yc59 [yk59_0] = true := by decide +kernel
theorem yx59_0 : y_runC y_hn0 (ytb yw59) 100000 yc59 [yk59_0] yk59_0 = true := by decide +kernel
-- RailwayHouse$Train.tell: 88 steps
theorem ye60 : y_runE y_hn0 (ytb yw60) 100000 yc60 [] = true := by decide +kernel
-- RailwayHouse$Train.trim: 4423 steps
theorem ye61 : y_runE (y_hnL yh0) (ytb yw61) 100000 yc61 [] = true := by decide +kernel
-- RailwayHouse$Vote.begin: 39 steps
theorem ye62 : y_runE y_hn0 (ytb yw62) 100000 yc62 [yk62_0] = true := by decide +kernel
theorem yx62_0 : y_runC y_hn0 (ytb yw62) 100000 yc62 [yk62_0] yk62_0 = true := by decide +kernel
-- RailwayHouse$Vote.beginChannels: 48 steps
theorem ye63 : y_runE y_hn0 (ytb yw63) 100000 yc63 [] = true := by decide +kernel
-- RailwayHouse$Vote.firstWrong: 2840 steps
theorem ye64 : y_runE y_hn0 (ytb yw64) 100000 yc64 [yk64_0] = true := by decide +kernel
theorem yx64_0 : y_runC y_hn0 (ytb yw64) 100000 yc64 [yk64_0] yk64_0 = true := by decide +kernel
-- RailwayHouse$Vote.goDown: 45 steps
theorem ye65 : y_runE y_hn0 (ytb yw65) 100000 yc65 [] = true := by decide +kernel
-- RailwayHouse$Vote.isClearThoughUnsafe: 765 steps
theorem ye66 : y_runE y_hn0 (ytb yw66) 100000 yc66 [yk66_0] = true := by decide +kernel
theorem yx66_0 : y_runC y_hn0 (ytb yw66) 100000 yc66 [yk66_0] yk66_0 = true := by decide +kernel
-- RailwayHouse$Vote.isShownWithoutRoute: 300 steps
theorem ye67 : y_runE y_hn0 (ytb yw67) 100000 yc67 [yk67_0] = true := by decide +kernel
theorem yx67_0 : y_runC y_hn0 (ytb yw67) 100000 yc67 [yk67_0] yk67_0 = true := by decide +kernel
-- RailwayHouse$Vote.order: 3867 steps
theorem ye68 : y_runE y_hn0 (ytb yw68) 100000 yc68 [] = true := by decide +kernel
