-- RailwayHouse$Channel.agrees: 3174 steps
theorem ye0 : y_runE y_hn0 (ytb yw0) 100000 yc0 [yk0_0] = true := by decide +kernel
theorem yx0_0 : y_runC y_hn0 (ytb yw0) 100000 yc0 [yk0_0] yk0_0 = true := by decide +kernel
-- RailwayHouse$Channel.become: 1086 steps
theorem ye1 : y_runE y_hn0 (ytb yw1) 100000 yc1 [yk1_0] = true := by decide +kernel
theorem yx1_0 : y_runC y_hn0 (ytb yw1) 100000 yc1 [yk1_0] yk1_0 = true := by decide +kernel
-- RailwayHouse$Channel.begin: 372 steps
theorem ye2 : y_runE y_hn0 (ytb yw2) 100000 yc2 [yk2_0] = true := by decide +kernel
theorem yx2_0 : y_runC y_hn0 (ytb yw2) 100000 yc2 [yk2_0] yk2_0 = true := by decide +kernel
-- RailwayHouse$Channel.canHavePoints: 1302 steps
theorem ye3 : y_runE y_hn0 (ytb yw3) 100000 yc3 [yk3_0] = true := by decide +kernel
theorem yx3_0 : y_runC y_hn0 (ytb yw3) 100000 yc3 [yk3_0] yk3_0 = true := by decide +kernel
-- RailwayHouse$Channel.clearSignals: 189 steps
theorem ye4 : y_runE y_hn0 (ytb yw4) 100000 yc4 [yk4_0] = true := by decide +kernel
theorem yx4_0 : y_runC y_hn0 (ytb yw4) 100000 yc4 [yk4_0] yk4_0 = true := by decide +kernel
-- RailwayHouse$Channel.doCycle: 654 steps
theorem ye5 : y_runE y_hn0 (ytb yw5) 100000 yc5 [yk5_0] = true := by decide +kernel
theorem yx5_0 : y_runC y_hn0 (ytb yw5) 100000 yc5 [yk5_0] yk5_0 = true := by decide +kernel
-- RailwayHouse$Channel.holderOf: 465 steps
theorem ye6 : y_runE y_hn0 (ytb yw6) 100000 yc6 [yk6_0] = true := by decide +kernel
theorem yx6_0 : y_runC y_hn0 (ytb yw6) 100000 yc6 [yk6_0] yk6_0 = true := by decide +kernel
-- RailwayHouse$Channel.isInTheWay: 690 steps
theorem ye7 : y_runE y_hn0 (ytb yw7) 100000 yc7 [yk7_0] = true := by decide +kernel
theorem yx7_0 : y_runC y_hn0 (ytb yw7) 100000 yc7 [yk7_0] yk7_0 = true := by decide +kernel
-- RailwayHouse$Channel.isWhole: 468 steps
theorem ye8 : y_runE y_hn0 (ytb yw8) 100000 yc8 [] = true := by decide +kernel
-- RailwayHouse$Channel.obeys: 441 steps
theorem ye9 : y_runE y_hn0 (ytb yw9) 100000 yc9 [] = true := by decide +kernel
-- RailwayHouse$Channel.obeysMove: 1329 steps
theorem ye10 : y_runE y_hn0 (ytb yw10) 100000 yc10 [yk10_0] = true := by decide +kernel
theorem yx10_0 : y_runC y_hn0 (ytb yw10) 100000 yc10 [yk10_0] yk10_0 = true := by decide +kernel
-- RailwayHouse$Channel.obeysSet: 618 steps
theorem ye11 : y_runE y_hn0 (ytb yw11) 100000 yc11 [] = true := by decide +kernel
-- RailwayHouse$Channel.restore: 579 steps
theorem ye12 : y_runE y_hn0 (ytb yw12) 100000 yc12 [] = true := by decide +kernel
-- RailwayHouse$Channel.stepCalled: 714 steps
theorem ye13 : y_runE y_hn0 (ytb yw13) 100000 yc13 [] = true := by decide +kernel
