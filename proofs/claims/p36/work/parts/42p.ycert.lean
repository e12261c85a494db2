-- RailwayHouseModel.takeLayout: 1357 steps
theorem ye322 : y_runE y_hn0 (ytb yw322) 100000 yc322 [yk322_0, yk322_1, yk322_2, yk322_3] = true := by decide +kernel
theorem yx322_0 : y_runC y_hn0 (ytb yw322) 100000 yc322 [yk322_0, yk322_1, yk322_2, yk322_3] yk322_0 = true := by decide +kernel
theorem yx322_1 : y_runC y_hn0 (ytb yw322) 100000 yc322 [yk322_0, yk322_1, yk322_2, yk322_3] yk322_1 = true := by decide +kernel
theorem yx322_2 : y_runC y_hn0 (ytb yw322) 100000 yc322 [yk322_0, yk322_1, yk322_2, yk322_3] yk322_2 = true := by decide +kernel
theorem yx322_3 : y_runC y_hn0 (ytb yw322) 100000 yc322 [yk322_0, yk322_1, yk322_2, yk322_3] yk322_3 = true := by decide +kernel
-- RailwayHouseModel.takeLayout: 1357 steps
theorem ye323 : y_runE y_hn0 (ytb yw323) 100000 yc323 [yk323_0, yk323_1, yk323_2, yk323_3] = true := by decide +kernel
theorem yx323_0 : y_runC y_hn0 (ytb yw323) 100000 yc323 [yk323_0, yk323_1, yk323_2, yk323_3] yk323_0 = true := by decide +kernel
theorem yx323_1 : y_runC y_hn0 (ytb yw323) 100000 yc323 [yk323_0, yk323_1, yk323_2, yk323_3] yk323_1 = true := by decide +kernel
theorem yx323_2 : y_runC y_hn0 (ytb yw323) 100000 yc323 [yk323_0, yk323_1, yk323_2, yk323_3] yk323_2 = true := by decide +kernel
theorem yx323_3 : y_runC y_hn0 (ytb yw323) 100000 yc323 [yk323_0, yk323_1, yk323_2, yk323_3] yk323_3 = true := by decide +kernel
-- RailwayHouseModel.takeLayout: 1355 steps
theorem ye324 : y_runE y_hn0 (ytb yw324) 100000 yc324 [yk324_0, yk324_1, yk324_2, yk324_3] = true := by decide +kernel
theorem yx324_0 : y_runC y_hn0 (ytb yw324) 100000 yc324 [yk324_0, yk324_1, yk324_2, yk324_3] yk324_0 = true := by decide +kernel
theorem yx324_1 : y_runC y_hn0 (ytb yw324) 100000 yc324 [yk324_0, yk324_1, yk324_2, yk324_3] yk324_1 = true := by decide +kernel
theorem yx324_2 : y_runC y_hn0 (ytb yw324) 100000 yc324 [yk324_0, yk324_1, yk324_2, yk324_3] yk324_2 = true := by decide +kernel
theorem yx324_3 : y_runC y_hn0 (ytb yw324) 100000 yc324 [yk324_0, yk324_1, yk324_2, yk324_3] yk324_3 = true := by decide +kernel
-- RailwayHouseModel.takeLayout: 1357 steps
theorem ye325 : y_runE y_hn0 (ytb yw325) 100000 yc325 [yk325_0, yk325_1, yk325_2, yk325_3] = true := by decide +kernel
theorem yx325_0 : y_runC y_hn0 (ytb yw325) 100000 yc325 [yk325_0, yk325_1, yk325_2, yk325_3] yk325_0 = true := by decide +kernel
theorem yx325_1 : y_runC y_hn0 (ytb yw325) 100000 yc325 [yk325_0, yk325_1, yk325_2, yk325_3] yk325_1 = true := by decide +kernel
theorem yx325_2 : y_runC y_hn0 (ytb yw325) 100000 yc325 [yk325_0, yk325_1, yk325_2, yk325_3] yk325_2 = true := by decide +kernel
theorem yx325_3 : y_runC y_hn0 (ytb yw325) 100000 yc325 [yk325_0, yk325_1, yk325_2, yk325_3] yk325_3 = true := by decide +kernel
-- RailwayHouseModel.takeLayout: 1357 steps
theorem ye326 : y_runE y_hn0 (ytb yw326) 100000 yc326 [yk326_0, yk326_1, yk326_2, yk326_3] = true := by decide +kernel
theorem yx326_0 : y_runC y_hn0 (ytb yw326) 100000 yc326 [yk326_0, yk326_1, yk326_2, yk326_3] yk326_0 = true := by decide +kernel
theorem yx326_1 : y_runC y_hn0 (ytb yw326) 100000 yc326 [yk326_0, yk326_1, yk326_2, yk326_3] yk326_1 = true := by decide +kernel
theorem yx326_2 : y_runC y_hn0 (ytb yw326) 100000 yc326 [yk326_0, yk326_1, yk326_2, yk326_3] yk326_2 = true := by decide +kernel
theorem yx326_3 : y_runC y_hn0 (ytb yw326) 100000 yc326 [yk326_0, yk326_1, yk326_2, yk326_3] yk326_3 = true := by decide +kernel
-- RailwayHouseModel.takeLayout: 1357 steps
theorem ye327 : y_runE y_hn0 (ytb yw327) 100000 yc327 [yk327_0, yk327_1, yk327_2, yk327_3] = true := by decide +kernel
theorem yx327_0 : y_runC y_hn0 (ytb yw327) 100000 yc327 [yk327_0, yk327_1, yk327_2, yk327_3] yk327_0 = true := by decide +kernel
theorem yx327_1 : y_runC y_hn0 (ytb yw327) 100000 yc327 [yk327_0, yk327_1, yk327_2, yk327_3] yk327_1 = true := by decide +kernel
theorem yx327_2 : y_runC y_hn0 (ytb yw327) 100000 yc327 [yk327_0, yk327_1, yk327_2, yk327_3] yk327_2 = true := by decide +kernel
theorem yx327_3 : y_runC y_hn0 (ytb yw327) 100000 yc327 [yk327_0, yk327_1, yk327_2, yk327_3] yk327_3 = true := by decide +kernel
-- RailwayHouseModel.takeLayout: 1357 steps
theorem ye328 : y_runE y_hn0 (ytb yw328) 100000 yc328 [yk328_0, yk328_1, yk328_2, yk328_3] = true := by decide +kernel
theorem yx328_0 : y_runC y_hn0 (ytb yw328) 100000 yc328 [yk328_0, yk328_1, yk328_2, yk328_3] yk328_0 = true := by decide +kernel
theorem yx328_1 : y_runC y_hn0 (ytb yw328) 100000 yc328 [yk328_0, yk328_1, yk328_2, yk328_3] yk328_1 = true := by decide +kernel
theorem yx328_2 : y_runC y_hn0 (ytb yw328) 100000 yc328 [yk328_0, yk328_1, yk328_2, yk328_3] yk328_2 = true := by decide +kernel
theorem yx328_3 : y_runC y_hn0 (ytb yw328) 100000 yc328 [yk328_0, yk328_1, yk328_2, yk328_3] yk328_3 = true := by decide +kernel
-- RailwayHouseModel.takeLayout: 1357 steps
theorem ye329 : y_runE y_hn0 (ytb yw329) 100000 yc329 [yk329_0, yk329_1, yk329_2, yk329_3] = true := by decide +kernel
theorem yx329_0 : y_runC y_hn0 (ytb yw329) 100000 yc329 [yk329_0, yk329_1, yk329_2, yk329_3] yk329_0 = true := by decide +kernel
theorem yx329_1 : y_runC y_hn0 (ytb yw329) 100000 yc329 [yk329_0, yk329_1, yk329_2, yk329_3] yk329_1 = true := by decide +kernel
theorem yx329_2 : y_runC y_hn0 (ytb yw329) 100000 yc329 [yk329_0, yk329_1, yk329_2, yk329_3] yk329_2 = true := by decide +kernel
theorem yx329_3 : y_runC y_hn0 (ytb yw329) 100000 yc329 [yk329_0, yk329_1, yk329_2, yk329_3] yk329_3 = true := by decide +kernel
-- RailwayHouseModel.takeLayout: 1357 steps
theorem ye330 : y_runE y_hn0 (ytb yw330) 100000 yc330 [yk330_0, yk330_1, yk330_2, yk330_3] = true := by decide +kernel
theorem yx330_0 : y_runC y_hn0 (ytb yw330) 100000 yc330 [yk330_0, yk330_1, yk330_2, yk330_3] yk330_0 = true := by decide +kernel
theorem yx330_1 : y_runC y_hn0 (ytb yw330) 100000 yc330 [yk330_0, yk330_1, yk330_2, yk330_3] yk330_1 = true := by decide +kernel
theorem yx330_2 : y_runC y_hn0 (ytb yw330) 100000 yc330 [yk330_0, yk330_1, yk330_2, yk330_3] yk330_2 = true := by decide +kernel
theorem yx330_3 : y_runC y_hn0 (ytb yw330) 100000 yc330 [yk330_0, yk330_1, yk330_2, yk330_3] yk330_3 = true := by decide +kernel
