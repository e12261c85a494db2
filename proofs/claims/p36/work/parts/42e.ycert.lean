-- RailwayHouse$Reports.forget: 75 steps
theorem ye37 : y_runE y_hn0 (ytb yw37) 100000 yc37 [yk37_0] = true := by decide +kernel
theorem yx37_0 : y_runC y_hn0 (ytb yw37) 100000 yc37 [yk37_0] yk37_0 = true := by decide +kernel
-- RailwayHouse$Reports.freeAll: 37 steps
theorem ye38 : y_runE y_hn0 (ytb yw38) 100000 yc38 [yk38_0] = true := by decide +kernel
theorem yx38_0 : y_runC y_hn0 (ytb yw38) 100000 yc38 [yk38_0] yk38_0 = true := by decide +kernel
-- RailwayHouse$Timetable.begin: 55 steps
theorem ye39 : y_runE y_hn0 (ytb yw39) 100000 yc39 [yk39_0] = true := by decide +kernel
theorem yx39_0 : y_runC y_hn0 (ytb yw39) 100000 yc39 [yk39_0] yk39_0 = true := by decide +kernel
-- RailwayHouse$Timetable.endHolds: 91 steps
theorem ye40 : y_runE y_hn0 (ytb yw40) 100000 yc40 [yk40_0] = true := by decide +kernel
theorem yx40_0 : y_runC y_hn0 (ytb yw40) 100000 yc40 [yk40_0] yk40_0 = true := by decide +kernel
-- RailwayHouse$Timetable.firstSeat: 161 steps
theorem ye41 : y_runE y_hn0 (ytb yw41) 100000 yc41 [yk41_0, yk41_1] = true := by decide +kernel
theorem yx41_0 : y_runC y_hn0 (ytb yw41) 100000 yc41 [yk41_0, yk41_1] yk41_0 = true := by decide +kernel
theorem yx41_1 : y_runC y_hn0 (ytb yw41) 100000 yc41 [yk41_0, yk41_1] yk41_1 = true := by decide +kernel
-- RailwayHouse$Train.on: 41 steps
theorem ye42 : y_runE y_hn0 (ytb yw42) 100000 yc42 [yk42_0] = true := by decide +kernel
theorem yx42_0 : y_runC y_hn0 (ytb yw42) 100000 yc42 [yk42_0] yk42_0 = true := by decide +kernel
-- RailwayHouse$Vote.begin: 39 steps
theorem ye43 : y_runE y_hn0 (ytb yw43) 100000 yc43 [yk43_0] = true := by decide +kernel
theorem yx43_0 : y_runC y_hn0 (ytb yw43) 100000 yc43 [yk43_0] yk43_0 = true := by decide +kernel
-- RailwayHouse$Vote.beginChannels: 48 steps
theorem ye44 : y_runE y_hn0 (ytb yw44) 100000 yc44 [] = true := by decide +kernel
-- RailwayHouse$Vote.firstWrong: 2840 steps
theorem ye45 : y_runE y_hn0 (ytb yw45) 100000 yc45 [yk45_0] = true := by decide +kernel
theorem yx45_0 : y_runC y_hn0 (ytb yw45) 100000 yc45 [yk45_0] yk45_0 = true := by decide +kernel
-- RailwayHouse$Vote.goDown: 45 steps
theorem ye46 : y_runE y_hn0 (ytb yw46) 100000 yc46 [] = true := by decide +kernel
-- RailwayHouse$Vote.isClearThoughUnsafe: 765 steps
theorem ye47 : y_runE y_hn0 (ytb yw47) 100000 yc47 [yk47_0] = true := by decide +kernel
theorem yx47_0 : y_runC y_hn0 (ytb yw47) 100000 yc47 [yk47_0] yk47_0 = true := by decide +kernel
-- RailwayHouse$Vote.isShownWithoutRoute: 300 steps
theorem ye48 : y_runE y_hn0 (ytb yw48) 100000 yc48 [yk48_0] = true := by decide +kernel
theorem yx48_0 : y_runC y_hn0 (ytb yw48) 100000 yc48 [yk48_0] yk48_0 = true := by decide +kernel
-- RailwayHouse$Vote.order: 3867 steps
theorem ye49 : y_runE y_hn0 (ytb yw49) 100000 yc49 [] = true := by decide +kernel
