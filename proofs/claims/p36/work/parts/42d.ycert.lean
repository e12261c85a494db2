-- RailwayHouse$Reports.forget: 75 steps
theorem ye50 : y_runE y_hn0 (ytb yw50) 100000 yc50 [yk50_0] = true := by decide +kernel
theorem yx50_0 : y_runC y_hn0 (ytb yw50) 100000 yc50 [yk50_0] yk50_0 = true := by decide +kernel
-- RailwayHouse$Reports.freeAll: 37 steps
theorem ye51 : y_runE y_hn0 (ytb yw51) 100000 yc51 [yk51_0] = true := by decide +kernel
theorem yx51_0 : y_runC y_hn0 (ytb yw51) 100000 yc51 [yk51_0] yk51_0 = true := by decide +kernel
-- RailwayHouse$Timetable.begin: 55 steps
theorem ye52 : y_runE y_hn0 (ytb yw52) 100000 yc52 [yk52_0] = true := by decide +kernel
theorem yx52_0 : y_runC y_hn0 (ytb yw52) 100000 yc52 [yk52_0] yk52_0 = true := by decide +kernel
-- RailwayHouse$Timetable.endHolds: 91 steps
theorem ye53 : y_runE y_hn0 (ytb yw53) 100000 yc53 [yk53_0] = true := by decide +kernel
theorem yx53_0 : y_runC y_hn0 (ytb yw53) 100000 yc53 [yk53_0] yk53_0 = true := by decide +kernel
-- RailwayHouse$Timetable.firstSeat: 161 steps
theorem ye54 : y_runE y_hn0 (ytb yw54) 100000 yc54 [yk54_0, yk54_1] = true := by decide +kernel
theorem yx54_0 : y_runC y_hn0 (ytb yw54) 100000 yc54 [yk54_0, yk54_1] yk54_0 = true := by decide +kernel
theorem yx54_1 : y_runC y_hn0 (ytb yw54) 100000 yc54 [yk54_0, yk54_1] yk54_1 = true := by decide +kernel
-- RailwayHouse$Train.on: 41 steps
theorem ye55 : y_runE y_hn0 (ytb yw55) 100000 yc55 [yk55_0] = true := by decide +kernel
theorem yx55_0 : y_runC y_hn0 (ytb yw55) 100000 yc55 [yk55_0] yk55_0 = true := by decide +kernel
-- RailwayHouse$Train.tell: 88 steps
theorem ye56 : y_runE y_hn0 (ytb yw56) 100000 yc56 [] = true := by decide +kernel
-- RailwayHouse$Train.trim: 4423 steps
theorem ye57 : y_runE (y_hnL yh0) (ytb yw57) 100000 yc57 [] = true := by decide +kernel
-- RailwayHouse$Vote.begin: 39 steps
theorem ye58 : y_runE y_hn0 (ytb yw58) 100000 yc58 [yk58_0] = true := by decide +kernel
theorem yx58_0 : y_runC y_hn0 (ytb yw58) 100000 yc58 [yk58_0] yk58_0 = true := by decide +kernel
-- RailwayHouse$Vote.beginChannels: 48 steps
theorem ye59 : y_runE y_hn0 (ytb yw59) 100000 yc59 [] = true := by decide +kernel
-- RailwayHouse$Vote.firstWrong: 2840 steps
theorem ye60 : y_runE y_hn0 (ytb yw60) 100000 yc60 [yk60_0] = true := by decide +kernel
theorem yx60_0 : y_runC y_hn0 (ytb yw60) 100000 yc60 [yk60_0] yk60_0 = true := by decide +kernel
-- RailwayHouse$Vote.goDown: 45 steps
theorem ye61 : y_runE y_hn0 (ytb yw61) 100000 yc61 [] = true := by decide +kernel
-- RailwayHouse$Vote.isClearThoughUnsafe: 765 steps
theorem ye62 : y_runE y_hn0 (ytb yw62) 100000 yc62 [yk62_0] = true := by decide +kernel
theorem yx62_0 : y_runC y_hn0 (ytb yw62) 100000 yc62 [yk62_0] yk62_0 = true := by decide +kernel
-- RailwayHouse$Vote.isShownWithoutRoute: 300 steps
theorem ye63 : y_runE y_hn0 (ytb yw63) 100000 yc63 [yk63_0] = true := by decide +kernel
theorem yx63_0 : y_runC y_hn0 (ytb yw63) 100000 yc63 [yk63_0] yk63_0 = true := by decide +kernel
-- RailwayHouse$Vote.order: 3867 steps
theorem ye64 : y_runE y_hn0 (ytb yw64) 100000 yc64 [] = true := by decide +kernel
