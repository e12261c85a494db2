-- RailwayHouse$Channel.doCycle: 654 steps
theorem ye5 : y_runE y_hn0 (ytb yw5) 100000 yc5 [yk5_0] = true := by decide +kernel
theorem yx5_0 : y_runC y_hn0 (ytb yw5) 100000 yc5 [yk5_0] yk5_0 = true := by decide +kernel
-- RailwayHouse$Channel.holderOf: 465 steps
theorem ye6 : y_runE y_hn0 (ytb yw6) 100000 yc6 [yk6_0] = true := by decide +kernel
theorem yx6_0 : y_runC y_hn0 (ytb yw6) 100000 yc6 [yk6_0] yk6_0 = true := by decide +kernel
-- RailwayHouse$Channel.isInTheWay: 690 steps
theorem ye7 : y_runE y_hn0 (ytb yw7) 100000 yc7 [yk7_0] = true := by decide +kernel
theorem yx7_0 : y_runC y_hn0 (ytb yw7) 100000 yc7 [yk7_0] yk7_0 = true := by decide +kernel
-- RailwayHouse$Channel.isWhole: 468 steps
theorem ye8 : y_runE y_hn0 (ytb yw8) 100000 yc8 [] = true := by decide +kernel
-- RailwayHouse$Channel.obeys: 441 steps
theorem ye9 : y_runE y_hn0 (ytb yw9) 100000 yc9 [] = true := by decide +kernel
-- RailwayHouse$Channel.obeysMove: 1329 steps
theorem ye10 : y_runE y_hn0 (ytb yw10) 100000 yc10 [yk10_0] = true := by decide +kernel
theorem yx10_0 : y_runC y_hn0 (ytb yw10) 100000 yc10 [yk10_0] yk10_0 = true := by decide +kernel
-- RailwayHouse$Channel.obeysSet: 618 steps
theorem ye11 : y_runE y_hn0 (ytb yw11) 100000 yc11 [] = true := by decide +kernel
-- RailwayHouse$Channel.restore: 579 steps
theorem ye12 : y_runE y_hn0 (ytb yw12) 100000 yc12 [] = true := by decide +kernel
-- RailwayHouse$Channel.stepCalled: 714 steps
theorem ye13 : y_runE y_hn0 (ytb yw13) 100000 yc13 [] = true := by decide +kernel
-- RailwayHouse$Channel.stepInUse: 2571 steps
theorem ye14 : y_runE y_hn0 (ytb yw14) 100000 yc14 [yk14_0, yk14_1] = true := by decide +kernel
theorem yx14_0 : y_runC y_hn0 (ytb yw14) 100000 yc14 [yk14_0, yk14_1] yk14_0 = true := by decide +kernel
theorem yx14_1 : y_runC y_hn0 (ytb yw14) 100000 yc14 [yk14_0, yk14_1] yk14_1 = true := by decide +kernel
