-- RailwayHouse$Reader.readStatement: 3725 steps
theorem ye48 : y_runE y_hn0 (ytb yw48) 100000 yc48 [yk48_0, yk48_1, yk48_2, yk48_3, yk48_4] = true := by decide +kernel
theorem yx48_0 : y_runC y_hn0 (ytb yw48) 100000 yc48 [yk48_0, yk48_1, yk48_2, yk48_3, yk48_4] yk48_0 = true := by decide +kernel
theorem yx48_1 : y_runC y_hn0 (ytb yw48) 100000 yc48 [yk48_0, yk48_1, yk48_2, yk48_3, yk48_4] yk48_1 = true := by decide +kernel
theorem yx48_2 : y_runC y_hn0 (ytb yw48) 100000 yc48 [yk48_0, yk48_1, yk48_2, yk48_3, yk48_4] yk48_2 = true := by decide +kernel
theorem yx48_3 : y_runC y_hn0 (ytb yw48) 100000 yc48 [yk48_0, yk48_1, yk48_2, yk48_3, yk48_4] yk48_3 = true := by decide +kernel
theorem yx48_4 : y_runC y_hn0 (ytb yw48) 100000 yc48 [yk48_0, yk48_1, yk48_2, yk48_3, yk48_4] yk48_4 = true := by decide +kernel
-- RailwayHouse$Reader.readStop: 337 steps
theorem ye49 : y_runE y_hn0 (ytb yw49) 100000 yc49 [] = true := by decide +kernel
-- RailwayHouse$Reader.scan: 600 steps
theorem ye50 : y_runE y_hn0 (ytb yw50) 100000 yc50 [yk50_0] = true := by decide +kernel
theorem yx50_0 : y_runC y_hn0 (ytb yw50) 100000 yc50 [yk50_0] yk50_0 = true := by decide +kernel
-- RailwayHouse$Reader.scanNumber: 860 steps
theorem ye51 : y_runE y_hn0 (ytb yw51) 100000 yc51 [yk51_0, yk51_1, yk51_2, yk51_3, yk51_4] = true := by decide +kernel
theorem yx51_0 : y_runC y_hn0 (ytb yw51) 100000 yc51 [yk51_0, yk51_1, yk51_2, yk51_3, yk51_4] yk51_0 = true := by decide +kernel
theorem yx51_1 : y_runC y_hn0 (ytb yw51) 100000 yc51 [yk51_0, yk51_1, yk51_2, yk51_3, yk51_4] yk51_1 = true := by decide +kernel
theorem yx51_2 : y_runC y_hn0 (ytb yw51) 100000 yc51 [yk51_0, yk51_1, yk51_2, yk51_3, yk51_4] yk51_2 = true := by decide +kernel
theorem yx51_3 : y_runC y_hn0 (ytb yw51) 100000 yc51 [yk51_0, yk51_1, yk51_2, yk51_3, yk51_4] yk51_3 = true := by decide +kernel
theorem yx51_4 : y_runC y_hn0 (ytb yw51) 100000 yc51 [yk51_0, yk51_1, yk51_2, yk51_3, yk51_4] yk51_4 = true := by decide +kernel
-- RailwayHouse$Reader.scanWord: 213 steps
theorem ye52 : y_runE y_hn0 (ytb yw52) 100000 yc52 [yk52_0] = true := by decide +kernel
theorem yx52_0 : y_runC y_hn0 (ytb yw52) 100000 yc52 [yk52_0] yk52_0 = true := by decide +kernel
-- RailwayHouse$Reports.come: 8185 steps
theorem ye53 : y_runE y_hn0 (ytb yw53) 100000 yc53 [yk53_0] = true := by decide +kernel
theorem yx53_0 : y_runC y_hn0 (ytb yw53) 100000 yc53 [yk53_0] yk53_0 = true := by decide +kernel
