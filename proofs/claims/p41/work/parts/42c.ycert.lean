-- RailwayHouse$Journeys.findAll: 196 steps
theorem ye20 : y_runE y_hn0 (ytb yw20) 100000 yc20 [yk20_0, yk20_1, yk20_2] = true := by decide +kernel
theorem yx20_0 : y_runC y_hn0 (ytb yw20) 100000 yc20 [yk20_0, yk20_1, yk20_2] yk20_0 = true := by decide +kernel
theorem yx20_1 : y_runC y_hn0 (ytb yw20) 100000 yc20 [yk20_0, yk20_1, yk20_2] yk20_1 = true := by decide +kernel
theorem yx20_2 : y_runC y_hn0 (ytb yw20) 100000 yc20 [yk20_0, yk20_1, yk20_2] yk20_2 = true := by decide +kernel
-- RailwayHouse$Journeys.harvest: 221 steps
theorem ye21 : y_runE y_hn0 (ytb yw21) 100000 yc21 [yk21_0, yk21_1] = true := by decide +kernel
theorem yx21_0 : y_runC y_hn0 (ytb yw21) 100000 yc21 [yk21_0, yk21_1] yk21_0 = true := by decide +kernel
theorem yx21_1 : y_runC y_hn0 (ytb yw21) 100000 yc21 [yk21_0, yk21_1] yk21_1 = true := by decide +kernel
-- RailwayHouse$Journeys.offer: 1815 steps
theorem ye22 : y_runE y_hn0 (ytb yw22) 100000 yc22 [yk22_0, yk22_1] = true := by decide +kernel
theorem yx22_0 : y_runC y_hn0 (ytb yw22) 100000 yc22 [yk22_0, yk22_1] yk22_0 = true := by decide +kernel
theorem yx22_1 : y_runC y_hn0 (ytb yw22) 100000 yc22 [yk22_0, yk22_1] yk22_1 = true := by decide +kernel
-- RailwayHouse$Journeys.ride: 795 steps
theorem ye23 : y_runE y_hn0 (ytb yw23) 100000 yc23 [yk23_0] = true := by decide +kernel
theorem yx23_0 : y_runC y_hn0 (ytb yw23) 100000 yc23 [yk23_0] yk23_0 = true := by decide +kernel
-- RailwayHouse$Layout.addSection: 98 steps
theorem ye24 : y_runE y_hn0 (ytb yw24) 100000 yc24 [yk24_0] = true := by decide +kernel
theorem yx24_0 : y_runC y_hn0 (ytb yw24) 100000 yc24 [yk24_0] yk24_0 = true := by decide +kernel
-- RailwayHouse$Layout.tellSection: 77 steps
theorem ye25 : y_runE y_hn0 (ytb yw25) 100000 yc25 [] = true := by decide +kernel
-- RailwayHouse$Layout.wayOut: 3339 steps
theorem ye26 : y_runE y_hn0 (ytb yw26) 100000 yc26 [] = true := by decide +kernel
-- RailwayHouse$Line.beginOf: 67 steps
theorem ye27 : y_runE y_hn0 (ytb yw27) 100000 yc27 [] = true := by decide +kernel
-- RailwayHouse$Line.keepBest: 86 steps
theorem ye28 : y_runE y_hn0 (ytb yw28) 100000 yc28 [yk28_0] = true := by decide +kernel
theorem yx28_0 : y_runC y_hn0 (ytb yw28) 100000 yc28 [yk28_0] yk28_0 = true := by decide +kernel
-- RailwayHouse$Line.tryAll: 197 steps
theorem ye29 : y_runE y_hn0 (ytb yw29) 100000 yc29 [yk29_0] = true := by decide +kernel
theorem yx29_0 : y_runC y_hn0 (ytb yw29) 100000 yc29 [yk29_0] yk29_0 = true := by decide +kernel
-- RailwayHouse$Line.tryAll: 198 steps
theorem ye30 : y_runE y_hn0 (ytb yw30) 100000 yc30 [yk30_0] = true := by decide +kernel
theorem yx30_0 : y_runC y_hn0 (ytb yw30) 100000 yc30 [yk30_0] yk30_0 = true := by decide +kernel
-- RailwayHouse$Line.tryAll: 198 steps
theorem ye31 : y_runE y_hn0 (ytb yw31) 100000 yc31 [yk31_0] = true := by decide +kernel
theorem yx31_0 : y_runC y_hn0 (ytb yw31) 100000 yc31 [yk31_0] yk31_0 = true := by decide +kernel
-- RailwayHouse$Line.tryAll: 198 steps
theorem ye32 : y_runE y_hn0 (ytb yw32) 100000 yc32 [yk32_0] = true := by decide +kernel
theorem yx32_0 : y_runC y_hn0 (ytb yw32) 100000 yc32 [yk32_0] yk32_0 = true := by decide +kernel
-- RailwayHouse$Line.tryAll: 198 steps
theorem ye33 : y_runE y_hn0 (ytb yw33) 100000 yc33 [yk33_0] = true := by decide +kernel
theorem yx33_0 : y_runC y_hn0 (ytb yw33) 100000 yc33 [yk33_0] yk33_0 = true := by decide +kernel
-- RailwayHouse$Line.tryAll: 198 steps
theorem ye34 : y_runE y_hn0 (ytb yw34) 100000 yc34 [yk34_0] = true := by decide +kernel
theorem yx34_0 : y_runC y_hn0 (ytb yw34) 100000 yc34 [yk34_0] yk34_0 = true := by decide +kernel
-- RailwayHouse$Line.tryAll: 198 steps
theorem ye35 : y_runE y_hn0 (ytb yw35) 100000 yc35 [yk35_0] = true := by decide +kernel
theorem yx35_0 : y_runC y_hn0 (ytb yw35) 100000 yc35 [yk35_0] yk35_0 = true := by decide +kernel
-- RailwayHouse$Line.tryAll: 13 steps
theorem ye36 : y_runE y_hn0 (ytb yw36) 100000 yc36 [] = true := by decide +kernel
-- RailwayHouse$Reader.checkWhole: 106 steps
theorem ye37 : y_runE y_hn0 (ytb yw37) 100000 yc37 [yk37_0] = true := by decide +kernel
theorem yx37_0 : y_runC y_hn0 (ytb yw37) 100000 yc37 [yk37_0] yk37_0 = true := by decide +kernel
-- RailwayHouse$Reader.readAll: 100 steps
theorem ye38 : y_runE y_hn0 (ytb yw38) 100000 yc38 [yk38_0] = true := by decide +kernel
theorem yx38_0 : y_runC y_hn0 (ytb yw38) 100000 yc38 [yk38_0] yk38_0 = true := by decide +kernel
-- RailwayHouse$Reader.readEnd: 731 steps
theorem ye39 : y_runE y_hn0 (ytb yw39) 100000 yc39 [] = true := by decide +kernel
-- RailwayHouse$Reader.readJoin: 863 steps
theorem ye40 : y_runE y_hn0 (ytb yw40) 100000 yc40 [] = true := by decide +kernel
-- RailwayHouse$Reader.readNumber: 76 steps
theorem ye41 : y_runE y_hn0 (ytb yw41) 100000 yc41 [] = true := by decide +kernel
-- RailwayHouse$Reader.readNumber: 69 steps
theorem ye42 : y_runE y_hn0 (ytb yw42) 100000 yc42 [] = true := by decide +kernel
-- RailwayHouse$Reader.readNumber: 95 steps
theorem ye43 : y_runE y_hn0 (ytb yw43) 100000 yc43 [] = true := by decide +kernel
-- RailwayHouse$Reader.readNumber: 76 steps
theorem ye44 : y_runE y_hn0 (ytb yw44) 100000 yc44 [] = true := by decide +kernel
-- RailwayHouse$Reader.readNumber: 95 steps
theorem ye45 : y_runE y_hn0 (ytb yw45) 100000 yc45 [] = true := by decide +kernel
-- RailwayHouse$Reader.readSection: 131 steps
theorem ye46 : y_runE y_hn0 (ytb yw46) 100000 yc46 [] = true := by decide +kernel
-- RailwayHouse$Reader.readSignal: 1739 steps
theorem ye47 : y_runE y_hn0 (ytb yw47) 100000 yc47 [] = true := by decide +kernel
