-- RailwayHouseModel.takeSemicolon: 65 steps
theorem ye357 : y_runE y_hn0 (ytb yw357) 100000 yc357 [] = true := by decide +kernel
-- RailwayHouseModel.tick: 54 steps
theorem ye358 : y_runE y_hn0 (ytb yw358) 100000 yc358 [yk358_0] = true := by decide +kernel
theorem yx358_0 : y_runC y_hn0 (ytb yw358) 100000 yc358 [yk358_0] yk358_0 = true := by decide +kernel
-- RailwayHouseModel.touchAll: 91 steps
theorem ye359 : y_runE (y_hnL yh0) (ytb yw359) 100000 yc359 [yk359_0, yk359_1] = true := by decide +kernel
theorem yx359_0 : y_runC (y_hnL yh0) (ytb yw359) 100000 yc359 [yk359_0, yk359_1] yk359_0 = true := by decide +kernel
theorem yx359_1 : y_runC (y_hnL yh0) (ytb yw359) 100000 yc359 [yk359_0, yk359_1] yk359_1 = true := by decide +kernel
-- RailwayHouseModel.train: 170 steps
theorem ye360 : y_runE (y_hnL yhT) (ytb yw360) 100000 yc360 [] = true := by decide +kernel
-- RailwayHouseModel.trainOn: 47 steps
theorem ye361 : y_runE y_hn0 (ytb yw361) 100000 yc361 [] = true := by decide +kernel
-- RailwayHouseModel.turn: 73 steps
theorem ye362 : y_runE y_hn0 (ytb yw362) 100000 yc362 [] = true := by decide +kernel
-- RailwayHouseModel.used: 127 steps
theorem ye363 : y_runE y_hn0 (ytb yw363) 100000 yc363 [] = true := by decide +kernel
-- RailwayHouseModel.usedIn: 617 steps
theorem ye364 : y_runE y_hn0 (ytb yw364) 100000 yc364 [yk364_0, yk364_1] = true := by decide +kernel
theorem yx364_0 : y_runC y_hn0 (ytb yw364) 100000 yc364 [yk364_0, yk364_1] yk364_0 = true := by decide +kernel
theorem yx364_1 : y_runC y_hn0 (ytb yw364) 100000 yc364 [yk364_0, yk364_1] yk364_1 = true := by decide +kernel
-- RailwayHouseModel.vote: 429 steps
theorem ye365 : y_runE y_hn0 (ytb yw365) 100000 yc365 [yk365_0, yk365_1, yk365_2] = true := by decide +kernel
theorem yx365_0 : y_runC y_hn0 (ytb yw365) 100000 yc365 [yk365_0, yk365_1, yk365_2] yk365_0 = true := by decide +kernel
theorem yx365_1 : y_runC y_hn0 (ytb yw365) 100000 yc365 [yk365_0, yk365_1, yk365_2] yk365_1 = true := by decide +kernel
theorem yx365_2 : y_runC y_hn0 (ytb yw365) 100000 yc365 [yk365_0, yk365_1, yk365_2] yk365_2 = true := by decide +kernel
-- RailwayHouseModel.voters: 53 steps
theorem ye366 : y_runE y_hn0 (ytb yw366) 100000 yc366 [yk366_0] = true := by decide +kernel
theorem yx366_0 : y_runC y_hn0 (ytb yw366) 100000 yc366 [yk366_0] yk366_0 = true := by decide +kernel
