-- RailwayHouseModel.anyTwice: 331 steps
theorem ye120 : y_runE y_hn0 (ytb yw120) 100000 yc120 [yk120_0, yk120_1] = true := by decide +kernel
theorem yx120_0 : y_runC y_hn0 (ytb yw120) 100000 yc120 [yk120_0, yk120_1] yk120_0 = true := by decide +kernel
theorem yx120_1 : y_runC y_hn0 (ytb yw120) 100000 yc120 [yk120_0, yk120_1] yk120_1 = true := by decide +kernel
-- RailwayHouseModel.beginAll: 89 steps
theorem ye121 : y_runE y_hn0 (ytb yw121) 100000 yc121 [yk121_0] = true := by decide +kernel
theorem yx121_0 : y_runC y_hn0 (ytb yw121) 100000 yc121 [yk121_0] yk121_0 = true := by decide +kernel
-- RailwayHouseModel.beginHouse: 203 steps
theorem ye122 : y_runE y_hn0 (ytb yw122) 100000 yc122 [yk122_0, yk122_1, yk122_2, yk122_3] = true := by decide +kernel
theorem yx122_0 : y_runC y_hn0 (ytb yw122) 100000 yc122 [yk122_0, yk122_1, yk122_2, yk122_3] yk122_0 = true := by decide +kernel
theorem yx122_1 : y_runC y_hn0 (ytb yw122) 100000 yc122 [yk122_0, yk122_1, yk122_2, yk122_3] yk122_1 = true := by decide +kernel
theorem yx122_2 : y_runC y_hn0 (ytb yw122) 100000 yc122 [yk122_0, yk122_1, yk122_2, yk122_3] yk122_2 = true := by decide +kernel
theorem yx122_3 : y_runC y_hn0 (ytb yw122) 100000 yc122 [yk122_0, yk122_1, yk122_2, yk122_3] yk122_3 = true := by decide +kernel
-- RailwayHouseModel.bindsNeed: 130 steps
theorem ye123 : y_runE y_hn0 (ytb yw123) 100000 yc123 [yk123_0] = true := by decide +kernel
theorem yx123_0 : y_runC y_hn0 (ytb yw123) 100000 yc123 [yk123_0] yk123_0 = true := by decide +kernel
-- RailwayHouseModel.block: 90 steps
theorem ye124 : y_runE y_hn0 (ytb yw124) 100000 yc124 [] = true := by decide +kernel
-- RailwayHouseModel.borderOf: 77 steps
theorem ye125 : y_runE y_hn0 (ytb yw125) 100000 yc125 [] = true := by decide +kernel
-- RailwayHouseModel.cancelIn: 91 steps
theorem ye126 : y_runE y_hn0 (ytb yw126) 100000 yc126 [] = true := by decide +kernel
-- RailwayHouseModel.channel: 48 steps
theorem ye127 : y_runE y_hn0 (ytb yw127) 100000 yc127 [] = true := by decide +kernel
-- RailwayHouseModel.clear: 7 steps
theorem ye128 : y_runE y_hn0 (ytb yw128) 100000 yc128 [] = true := by decide +kernel
-- RailwayHouseModel.clearLine: 8 steps
theorem ye129 : y_runE y_hn0 (ytb yw129) 100000 yc129 [] = true := by decide +kernel
-- RailwayHouseModel.conflict: 2854 steps
theorem ye130 : y_runE y_hn0 (ytb yw130) 100000 yc130 [] = true := by decide +kernel
-- RailwayHouseModel.copyChannel: 265 steps
theorem ye131 : y_runE y_hn0 (ytb yw131) 100000 yc131 [yk131_0] = true := by decide +kernel
theorem yx131_0 : y_runC y_hn0 (ytb yw131) 100000 yc131 [yk131_0] yk131_0 = true := by decide +kernel
-- RailwayHouseModel.costOf: 967 steps
theorem ye132 : y_runE y_hn0 (ytb yw132) 100000 yc132 [yk132_0] = true := by decide +kernel
theorem yx132_0 : y_runC y_hn0 (ytb yw132) 100000 yc132 [yk132_0] yk132_0 = true := by decide +kernel
-- RailwayHouseModel.count: 61 steps
theorem ye133 : y_runE y_hn0 (ytb yw133) 100000 yc133 [] = true := by decide +kernel
-- RailwayHouseModel.cut: 13 steps
theorem ye134 : y_runE y_hn0 (ytb yw134) 100000 yc134 [] = true := by decide +kernel
-- RailwayHouseModel.end: 30 steps
theorem ye135 : y_runE y_hn0 (ytb yw135) 100000 yc135 [] = true := by decide +kernel
-- RailwayHouseModel.fault: 60 steps
theorem ye136 : y_runE y_hn0 (ytb yw136) 100000 yc136 [] = true := by decide +kernel
-- RailwayHouseModel.feed: 760 steps
theorem ye137 : y_runE y_hn0 (ytb yw137) 100000 yc137 [] = true := by decide +kernel
