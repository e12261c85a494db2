-- RailwayHouseModel.takeSemicolon: 65 steps
theorem ye362 : y_runE y_hn0 (ytb yw362) 100000 yc362 [] = true := by decide +kernel
-- RailwayHouseModel.tick: 54 steps
theorem ye363 : y_runE y_hn0 (ytb yw363) 100000 yc363 [yk363_0] = true := by decide +kernel
theorem yx363_0 : y_runC y_hn0 (ytb yw363) 100000 yc363 [yk363_0] yk363_0 = true := by decide +kernel
-- RailwayHouseModel.touchAll: 91 steps
theorem ye364 : y_runE (y_hnL yh0) (ytb yw364) 100000 yc364 [yk364_0, yk364_1] = true := by decide +kernel
theorem yx364_0 : y_runC (y_hnL yh0) (ytb yw364) 100000 yc364 [yk364_0, yk364_1] yk364_0 = true := by decide +kernel
theorem yx364_1 : y_runC (y_hnL yh0) (ytb yw364) 100000 yc364 [yk364_0, yk364_1] yk364_1 = true := by decide +kernel
-- RailwayHouseModel.train: 170 steps
theorem ye365 : y_runE (y_hnL yhT) (ytb yw365) 100000 yc365 [] = true := by decide +kernel
-- RailwayHouseModel.trainOn: 47 steps
theorem ye366 : y_runE y_hn0 (ytb yw366) 100000 yc366 [] = true := by decide +kernel
-- RailwayHouseModel.turn: 73 steps
theorem ye367 : y_runE y_hn0 (ytb yw367) 100000 yc367 [] = true := by decide +kernel
-- RailwayHouseModel.used: 127 steps
theorem ye368 : y_runE y_hn0 (ytb yw368) 100000 yc368 [] = true := by decide +kernel
-- RailwayHouseModel.usedIn: 617 steps
theorem ye369 : y_runE y_hn0 (ytb yw369) 100000 yc369 [yk369_0, yk369_1] = true := by decide +kernel
theorem yx369_0 : y_runC y_hn0 (ytb yw369) 100000 yc369 [yk369_0, yk369_1] yk369_0 = true := by decide +kernel
theorem yx369_1 : y_runC y_hn0 (ytb yw369) 100000 yc369 [yk369_0, yk369_1] yk369_1 = true := by decide +kernel
-- RailwayHouseModel.vote: 429 steps
theorem ye370 : y_runE y_hn0 (ytb yw370) 100000 yc370 [yk370_0, yk370_1, yk370_2] = true := by decide +kernel
theorem yx370_0 : y_runC y_hn0 (ytb yw370) 100000 yc370 [yk370_0, yk370_1, yk370_2] yk370_0 = true := by decide +kernel
theorem yx370_1 : y_runC y_hn0 (ytb yw370) 100000 yc370 [yk370_0, yk370_1, yk370_2] yk370_1 = true := by decide +kernel
theorem yx370_2 : y_runC y_hn0 (ytb yw370) 100000 yc370 [yk370_0, yk370_1, yk370_2] yk370_2 = true := by decide +kernel
-- RailwayHouseModel.voters: 53 steps
theorem ye371 : y_runE y_hn0 (ytb yw371) 100000 yc371 [yk371_0] = true := by decide +kernel
theorem yx371_0 : y_runC y_hn0 (ytb yw371) 100000 yc371 [yk371_0] yk371_0 = true := by decide +kernel
