-- RailwayHouseModel.takeLayout: 1633 steps
theorem ye318 : y_runE y_hn0 (ytb yw318) 100000 yc318 [yk318_0, yk318_1, yk318_2, yk318_3, yk318_4] = true := by decide +kernel
theorem yx318_0 : y_runC y_hn0 (ytb yw318) 100000 yc318 [yk318_0, yk318_1, yk318_2, yk318_3, yk318_4] yk318_0 = true := by decide +kernel
theorem yx318_1 : y_runC y_hn0 (ytb yw318) 100000 yc318 [yk318_0, yk318_1, yk318_2, yk318_3, yk318_4] yk318_1 = true := by decide +kernel
theorem yx318_2 : y_runC y_hn0 (ytb yw318) 100000 yc318 [yk318_0, yk318_1, yk318_2, yk318_3, yk318_4] yk318_2 = true := by decide +kernel
theorem yx318_3 : y_runC y_hn0 (ytb yw318) 100000 yc318 [yk318_0, yk318_1, yk318_2, yk318_3, yk318_4] yk318_3 = true := by decide +kernel
theorem yx318_4 : y_runC y_hn0 (ytb yw318) 100000 yc318 [yk318_0, yk318_1, yk318_2, yk318_3, yk318_4] yk318_4 = true := by decide +kernel
-- RailwayHouseModel.takeLayout: 1357 steps
theorem ye319 : y_runE y_hn0 (ytb yw319) 100000 yc319 [yk319_0, yk319_1, yk319_2, yk319_3] = true := by decide +kernel
theorem yx319_0 : y_runC y_hn0 (ytb yw319) 100000 yc319 [yk319_0, yk319_1, yk319_2, yk319_3] yk319_0 = true := by decide +kernel
theorem yx319_1 : y_runC y_hn0 (ytb yw319) 100000 yc319 [yk319_0, yk319_1, yk319_2, yk319_3] yk319_1 = true := by decide +kernel
theorem yx319_2 : y_runC y_hn0 (ytb yw319) 100000 yc319 [yk319_0, yk319_1, yk319_2, yk319_3] yk319_2 = true := by decide +kernel
theorem yx319_3 : y_runC y_hn0 (ytb yw319) 100000 yc319 [yk319_0, yk319_1, yk319_2, yk319_3] yk319_3 = true := by decide +kernel
-- RailwayHouseModel.takeLayout: 1357 steps
theorem ye320 : y_runE y_hn0 (ytb yw320) 100000 yc320 [yk320_0, yk320_1, yk320_2, yk320_3] = true := by decide +kernel
theorem yx320_0 : y_runC y_hn0 (ytb yw320) 100000 yc320 [yk320_0, yk320_1, yk320_2, yk320_3] yk320_0 = true := by decide +kernel
theorem yx320_1 : y_runC y_hn0 (ytb yw320) 100000 yc320 [yk320_0, yk320_1, yk320_2, yk320_3] yk320_1 = true := by decide +kernel
theorem yx320_2 : y_runC y_hn0 (ytb yw320) 100000 yc320 [yk320_0, yk320_1, yk320_2, yk320_3] yk320_2 = true := by decide +kernel
theorem yx320_3 : y_runC y_hn0 (ytb yw320) 100000 yc320 [yk320_0, yk320_1, yk320_2, yk320_3] yk320_3 = true := by decide +kernel
-- RailwayHouseModel.takeLayout: 1357 steps
theorem ye321 : y_runE y_hn0 (ytb yw321) 100000 yc321 [yk321_0, yk321_1, yk321_2, yk321_3] = true := by decide +kernel
theorem yx321_0 : y_runC y_hn0 (ytb yw321) 100000 yc321 [yk321_0, yk321_1, yk321_2, yk321_3] yk321_0 = true := by decide +kernel
theorem yx321_1 : y_runC y_hn0 (ytb yw321) 100000 yc321 [yk321_0, yk321_1, yk321_2, yk321_3] yk321_1 = true := by decide +kernel
theorem yx321_2 : y_runC y_hn0 (ytb yw321) 100000 yc321 [yk321_0, yk321_1, yk321_2, yk321_3] yk321_2 = true := by decide +kernel
theorem yx321_3 : y_runC y_hn0 (ytb yw321) 100000 yc321 [yk321_0, yk321_1, yk321_2, yk321_3] yk321_3 = true := by decide +kernel
-- RailwayHouseModel.takeLayout: 1357 steps
theorem ye322 : y_runE y_hn0 (ytb yw322) 100000 yc322 [yk322_0, yk322_1, yk322_2, yk322_3] = true := by decide +kernel
theorem yx322_0 : y_runC y_hn0 (ytb yw322) 100000 yc322 [yk322_0, yk322_1, yk322_2, yk322_3] yk322_0 = true := by decide +kernel
theorem yx322_1 : y_runC y_hn0 (ytb yw322) 100000 yc322 [yk322_0, yk322_1, yk322_2, yk322_3] yk322_1 = true := by decide +kernel
theorem yx322_2 : y_runC y_hn0 (ytb yw322) 100000 yc322 [yk322_0, yk322_1, yk322_2, yk322_3] yk322_2 = true := by decide +kernel
theorem yx322_3 : y_runC y_hn0 (ytb yw322) 100000 yc322 [yk322_0, yk322_1, yk322_2, yk322_3] yk322_3 = true := by decide +kernel
-- RailwayHouseModel.takeLayout: 1357 steps
theorem ye323 : y_runE y_hn0 (ytb yw323) 100000 yc323 [yk323_0, yk323_1, yk323_2, yk323_3] = true := by decide +kernel
theorem yx323_0 : y_runC y_hn0 (ytb yw323) 100000 yc323 [yk323_0, yk323_1, yk323_2, yk323_3] yk323_0 = true := by decide +kernel
theorem yx323_1 : y_runC y_hn0 (ytb yw323) 100000 yc323 [yk323_0, yk323_1, yk323_2, yk323_3] yk323_1 = true := by decide +kernel
theorem yx323_2 : y_runC y_hn0 (ytb yw323) 100000 yc323 [yk323_0, yk323_1, yk323_2, yk323_3] yk323_2 = true := by decide +kernel
theorem yx323_3 : y_runC y_hn0 (ytb yw323) 100000 yc323 [yk323_0, yk323_1, yk323_2, yk323_3] yk323_3 = true := by decide +kernel
-- RailwayHouseModel.takeLayout: 1355 steps
theorem ye324 : y_runE y_hn0 (ytb yw324) 100000 yc324 [yk324_0, yk324_1, yk324_2, yk324_3] = true := by decide +kernel
theorem yx324_0 : y_runC y_hn0 (ytb yw324) 100000 yc324 [yk324_0, yk324_1, yk324_2, yk324_3] yk324_0 = true := by decide +kernel
theorem yx324_1 : y_runC y_hn0 (ytb yw324) 100000 yc324 [yk324_0, yk324_1, yk324_2, yk324_3] yk324_1 = true := by decide +kernel
theorem yx324_2 : y_runC y_hn0 (ytb yw324) 100000 yc324 [yk324_0, yk324_1, yk324_2, yk324_3] yk324_2 = true := by decide +kernel
theorem yx324_3 : y_runC y_hn0 (ytb yw324) 100000 yc324 [yk324_0, yk324_1, yk324_2, yk324_3] yk324_3 = true := by decide +kernel
-- RailwayHouseModel.takeLayout: 1357 steps
theorem ye325 : y_runE y_hn0 (ytb yw325) 100000 yc325 [yk325_0, yk325_1, yk325_2, yk325_3] = true := by decide +kernel
theorem yx325_0 : y_runC y_hn0 (ytb yw325) 100000 yc325 [yk325_0, yk325_1, yk325_2, yk325_3] yk325_0 = true := by decide +kernel
theorem yx325_1 : y_runC y_hn0 (ytb yw325) 100000 yc325 [yk325_0, yk325_1, yk325_2, yk325_3] yk325_1 = true := by decide +kernel
theorem yx325_2 : y_runC y_hn0 (ytb yw325) 100000 yc325 [yk325_0, yk325_1, yk325_2, yk325_3] yk325_2 = true := by decide +kernel
theorem yx325_3 : y_runC y_hn0 (ytb yw325) 100000 yc325 [yk325_0, yk325_1, yk325_2, yk325_3] yk325_3 = true := by decide +kernel
-- RailwayHouseModel.takeLayout: 1357 steps
theorem ye326 : y_runE y_hn0 (ytb yw326) 100000 yc326 [yk326_0, yk326_1, yk326_2, yk326_3] = true := by decide +kernel
theorem yx326_0 : y_runC y_hn0 (ytb yw326) 100000 yc326 [yk326_0, yk326_1, yk326_2, yk326_3] yk326_0 = true := by decide +kernel
theorem yx326_1 : y_runC y_hn0 (ytb yw326) 100000 yc326 [yk326_0, yk326_1, yk326_2, yk326_3] yk326_1 = true := by decide +kernel
theorem yx326_2 : y_runC y_hn0 (ytb yw326) 100000 yc326 [yk326_0, yk326_1, yk326_2, yk326_3] yk326_2 = true := by decide +kernel
theorem yx326_3 : y_runC y_hn0 (ytb yw326) 100000 yc326 [yk326_0, yk326_1, yk326_2, yk326_3] yk326_3 = true := by decide +kernel
