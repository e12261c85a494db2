-- RailwayHouse$Reader.readStatement: 3725 steps
theorem ye49 : y_runE y_hn0 (ytb yw49) 100000 yc49 [yk49_0, yk49_1, yk49_2, yk49_3, yk49_4] = true := by decide +kernel
theorem yx49_0 : y_runC y_hn0 (ytb yw49) 100000 yc49 [yk49_0, yk49_1, yk49_2, yk49_3, yk49_4] yk49_0 = true := by decide +kernel
theorem yx49_1 : y_runC y_hn0 (ytb yw49) 100000 yc49 [yk49_0, yk49_1, yk49_2, yk49_3, yk49_4] yk49_1 = true := by decide +kernel
theorem yx49_2 : y_runC y_hn0 (ytb yw49) 100000 yc49 [yk49_0, yk49_1, yk49_2, yk49_3, yk49_4] yk49_2 = true := by decide +kernel
theorem yx49_3 : y_runC y_hn0 (ytb yw49) 100000 yc49 [yk49_0, yk49_1, yk49_2, yk49_3, yk49_4] yk49_3 = true := by decide +kernel
theorem yx49_4 : y_runC y_hn0 (ytb yw49) 100000 yc49 [yk49_0, yk49_1, yk49_2, yk49_3, yk49_4] yk49_4 = true := by decide +kernel
-- RailwayHouse$Reader.readStop: 337 steps
theorem ye50 : y_runE y_hn0 (ytb yw50) 100000 yc50 [] = true := by decide +kernel
-- RailwayHouse$Reader.scan: 600 steps
theorem ye51 : y_runE y_hn0 (ytb yw51) 100000 yc51 [yk51_0] = true := by decide +kernel
theorem yx51_0 : y_runC y_hn0 (ytb yw51) 100000 yc51 [yk51_0] yk51_0 = true := by decide +kernel
-- RailwayHouse$Reader.scanNumber: 860 steps
theorem ye52 : y_runE y_hn0 (ytb yw52) 100000 yc52 [yk52_0, yk52_1, yk52_2, yk52_3, yk52_4] = true := by decide +kernel
theorem yx52_0 : y_runC y_hn0 (ytb yw52) 100000 yc52 [yk52_0, yk52_1, yk52_2, yk52_3, yk52_4] yk52_0 = true := by decide +kernel
theorem yx52_1 : y_runC y_hn0 (ytb yw52) 100000 yc52 [yk52_0, yk52_1, yk52_2, yk52_3, yk52_4] yk52_1 = true := by decide +kernel
theorem yx52_2 : y_runC y_hn0 (ytb yw52) 100000 yc52 [yk52_0, yk52_1, yk52_2, yk52_3, yk52_4] yk52_2 = true := by decide +kernel
theorem yx52_3 : y_runC y_hn0 (ytb yw52) 100000 yc52 [yk52_0, yk52_1, yk52_2, yk52_3, yk52_4] yk52_3 = true := by decide +kernel
theorem yx52_4 : y_runC y_hn0 (ytb yw52) 100000 yc52 [yk52_0, yk52_1, yk52_2, yk52_3, yk52_4] yk52_4 = true := by decide +kernel
-- RailwayHouse$Reader.scanWord: 213 steps
theorem ye53 : y_runE y_hn0 (ytb yw53) 100000 yc53 [yk53_0] = true := by decide +kernel
theorem yx53_0 : y_runC y_hn0 (ytb yw53) 100000 yc53 [yk53_0] yk53_0 = true := by decide +kernel
-- RailwayHouse$Reports.come: 8185 steps
theorem ye54 : y_runE y_hn0 (ytb yw54) 100000 yc54 [yk54_0] = true := by decide +kernel
theorem yx54_0 : y_runC y_hn0 (ytb yw54) 100000 yc54 [yk54_0] yk54_0 = true := by decide +kernel
