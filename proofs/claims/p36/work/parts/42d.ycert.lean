-- RailwayHouse$Journeys.beginLevel: 360 steps
theorem ye18 : y_runE y_hn0 (ytb yw18) 100000 yc18 [yk18_0] = true := by decide +kernel
theorem yx18_0 : y_runC y_hn0 (ytb yw18) 100000 yc18 [yk18_0] yk18_0 = true := by decide +kernel
-- RailwayHouse$Journeys.changeInto: 885 steps
theorem ye19 : y_runE y_hn0 (ytb yw19) 100000 yc19 [yk19_0, yk19_1] = true := by decide +kernel
theorem yx19_0 : y_runC y_hn0 (ytb yw19) 100000 yc19 [yk19_0, yk19_1] yk19_0 = true := by decide +kernel
theorem yx19_1 : y_runC y_hn0 (ytb yw19) 100000 yc19 [yk19_0, yk19_1] yk19_1 = true := by decide +kernel
-- RailwayHouse$Journeys.ride: 795 steps
theorem ye20 : y_runE y_hn0 (ytb yw20) 100000 yc20 [yk20_0] = true := by decide +kernel
theorem yx20_0 : y_runC y_hn0 (ytb yw20) 100000 yc20 [yk20_0] yk20_0 = true := by decide +kernel
-- RailwayHouse$Layout.borderInto: 177 steps
theorem ye21 : y_runE y_hn0 (ytb yw21) 100000 yc21 [] = true := by decide +kernel
-- RailwayHouse$Layout.tellSection: 77 steps
theorem ye22 : y_runE y_hn0 (ytb yw22) 100000 yc22 [] = true := by decide +kernel
-- RailwayHouse$Layout.wayOut: 59 steps
theorem ye23 : y_runE y_hn0 (ytb yw23) 100000 yc23 [] = true := by decide +kernel
-- RailwayHouse$Line.beginOf: 67 steps
theorem ye24 : y_runE y_hn0 (ytb yw24) 100000 yc24 [] = true := by decide +kernel
-- RailwayHouse$Line.keepBest: 86 steps
theorem ye25 : y_runE y_hn0 (ytb yw25) 100000 yc25 [yk25_0] = true := by decide +kernel
theorem yx25_0 : y_runC y_hn0 (ytb yw25) 100000 yc25 [yk25_0] yk25_0 = true := by decide +kernel
-- RailwayHouse$Line.tryAll: 197 steps
theorem ye26 : y_runE y_hn0 (ytb yw26) 100000 yc26 [yk26_0] = true := by decide +kernel
theorem yx26_0 : y_runC y_hn0 (ytb yw26) 100000 yc26 [yk26_0] yk26_0 = true := by decide +kernel
-- RailwayHouse$Line.tryAll: 198 steps
theorem ye27 : y_runE y_hn0 (ytb yw27) 100000 yc27 [yk27_0] = true := by decide +kernel
theorem yx27_0 : y_runC y_hn0 (ytb yw27) 100000 yc27 [yk27_0] yk27_0 = true := by decide +kernel
-- RailwayHouse$Line.tryAll: 198 steps
theorem ye28 : y_runE y_hn0 (ytb yw28) 100000 yc28 [yk28_0] = true := by decide +kernel
theorem yx28_0 : y_runC y_hn0 (ytb yw28) 100000 yc28 [yk28_0] yk28_0 = true := by decide +kernel
-- RailwayHouse$Line.tryAll: 198 steps
theorem ye29 : y_runE y_hn0 (ytb yw29) 100000 yc29 [yk29_0] = true := by decide +kernel
theorem yx29_0 : y_runC y_hn0 (ytb yw29) 100000 yc29 [yk29_0] yk29_0 = true := by decide +kernel
-- RailwayHouse$Line.tryAll: 198 steps
theorem ye30 : y_runE y_hn0 (ytb yw30) 100000 yc30 [yk30_0] = true := by decide +kernel
theorem yx30_0 : y_runC y_hn0 (ytb yw30) 100000 yc30 [yk30_0] yk30_0 = true := by decide +kernel
-- RailwayHouse$Line.tryAll: 198 steps
theorem ye31 : y_runE y_hn0 (ytb yw31) 100000 yc31 [yk31_0] = true := by decide +kernel
theorem yx31_0 : y_runC y_hn0 (ytb yw31) 100000 yc31 [yk31_0] yk31_0 = true := by decide +kernel
-- RailwayHouse$Line.tryAll: 198 steps
theorem ye32 : y_runE y_hn0 (ytb yw32) 100000 yc32 [yk32_0] = true := by decide +kernel
theorem yx32_0 : y_runC y_hn0 (ytb yw32) 100000 yc32 [yk32_0] yk32_0 = true := by decide +kernel
-- RailwayHouse$Line.tryAll: 13 steps
theorem ye33 : y_runE y_hn0 (ytb yw33) 100000 yc33 [] = true := by decide +kernel
-- RailwayHouse$Reader.checkWhole: 33 steps
theorem ye34 : y_runE y_hn0 (ytb yw34) 100000 yc34 [yk34_0] = true := by decide +kernel
theorem yx34_0 : y_runC y_hn0 (ytb yw34) 100000 yc34 [yk34_0] yk34_0 = true := by decide +kernel
-- RailwayHouse$Reader.scanWord: 213 steps
theorem ye35 : y_runE y_hn0 (ytb yw35) 100000 yc35 [yk35_0] = true := by decide +kernel
theorem yx35_0 : y_runC y_hn0 (ytb yw35) 100000 yc35 [yk35_0] yk35_0 = true := by decide +kernel
-- RailwayHouse$Reports.come: 8185 steps
theorem ye36 : y_runE y_hn0 (ytb yw36) 100000 yc36 [yk36_0] = true := by decide +kernel
theorem yx36_0 : y_runC y_hn0 (ytb yw36) 100000 yc36 [yk36_0] yk36_0 = true := by decide +kernel
