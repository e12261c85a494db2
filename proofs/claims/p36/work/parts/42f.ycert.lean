-- RailwayHouse$Ways.findNeeds: 1809 steps
theorem ye87 : y_runE y_hn0 (ytb yw87) 100000 yc87 [yk87_0, yk87_1, yk87_2, yk87_3, yk87_4, yk87_5, yk87_6, yk87_7, yk87_8, yk87_9, yk87_10, yk87_11, yk87_12, yk87_13, yk87_14, yk87_15, yk87_16, yk87_17] = true := by decide +kernel
theorem yx87_0 : y_runC y_hn0 (ytb yw87) 100000 yc87 [yk87_0, yk87_1, yk87_2, yk87_3, yk87_4, yk87_5, yk87_6, yk87_7, yk87_8, yk87_9, yk87_10, yk87_11, yk87_12, yk87_13, yk87_14, yk87_15, yk87_16, yk87_17] yk87_0 = true := by decide +kernel
theorem yx87_1 : y_runC y_hn0 (ytb yw87) 100000 yc87 [yk87_0, yk87_1, yk87_2, yk87_3, yk87_4, yk87_5, yk87_6, yk87_7, yk87_8, yk87_9, yk87_10, yk87_11, yk87_12, yk87_13, yk87_14, yk87_15, yk87_16, yk87_17] yk87_1 = true := by decide +kernel
theorem yx87_2 : y_runC y_hn0 (ytb yw87) 100000 yc87 [yk87_0, yk87_1, yk87_2, yk87_3, yk87_4, yk87_5, yk87_6, yk87_7, yk87_8, yk87_9, yk87_10, yk87_11, yk87_12, yk87_13, yk87_14, yk87_15, yk87_16, yk87_17] yk87_2 = true := by decide +kernel
theorem yx87_3 : y_runC y_hn0 (ytb yw87) 100000 yc87 [yk87_0, yk87_1, yk87_2, yk87_3, yk87_4, yk87_5, yk87_6, yk87_7, yk87_8, yk87_9, yk87_10, yk87_11, yk87_12, yk87_13, yk87_14, yk87_15, yk87_16, yk87_17] yk87_3 = true := by decide +kernel
theorem yx87_4 : y_runC y_hn0 (ytb yw87) 100000 yc87 [yk87_0, yk87_1, yk87_2, yk87_3, yk87_4, yk87_5, yk87_6, yk87_7, yk87_8, yk87_9, yk87_10, yk87_11, yk87_12, yk87_13, yk87_14, yk87_15, yk87_16, yk87_17] yk87_4 = true := by decide +kernel
theorem yx87_5 : y_runC y_hn0 (ytb yw87) 100000 yc87 [yk87_0, yk87_1, yk87_2, yk87_3, yk87_4, yk87_5, yk87_6, yk87_7, yk87_8, yk87_9, yk87_10, yk87_11, yk87_12, yk87_13, yk87_14, yk87_15, yk87_16, yk87_17] yk87_5 = true := by decide +kernel
theorem yx87_6 : y_runC y_hn0 (ytb yw87) 100000 yc87 [yk87_0, yk87_1, yk87_2, yk87_3, yk87_4, yk87_5, yk87_6, yk87_7, yk87_8, yk87_9, yk87_10, yk87_11, yk87_12, yk87_13, yk87_14, yk87_15, yk87_16, yk87_17] yk87_6 = true := by decide +kernel
theorem yx87_7 : y_runC y_hn0 (ytb yw87) 100000 yc87 [yk87_0, yk87_1, yk87_2, yk87_3, yk87_4, yk87_5, yk87_6, yk87_7, yk87_8, yk87_9, yk87_10, yk87_11, yk87_12, yk87_13, yk87_14, yk87_15, yk87_16, yk87_17] yk87_7 = true := by decide +kernel
theorem yx87_8 : y_runC y_hn0 (ytb yw87) 100000 yc87 [yk87_0, yk87_1, yk87_2, yk87_3, yk87_4, yk87_5, yk87_6, yk87_7, yk87_8, yk87_9, yk87_10, yk87_11, yk87_12, yk87_13, yk87_14, yk87_15, yk87_16, yk87_17] yk87_8 = true := by decide +kernel
theorem yx87_9 : y_runC y_hn0 (ytb yw87) 100000 yc87 [yk87_0, yk87_1, yk87_2, yk87_3, yk87_4, yk87_5, yk87_6, yk87_7, yk87_8, yk87_9, yk87_10, yk87_11, yk87_12, yk87_13, yk87_14, yk87_15, yk87_16, yk87_17] yk87_9 = true := by decide +kernel
theorem yx87_10 : y_runC y_hn0 (ytb yw87) 100000 yc87 [yk87_0, yk87_1, yk87_2, yk87_3, yk87_4, yk87_5, yk87_6, yk87_7, yk87_8, yk87_9, yk87_10, yk87_11, yk87_12, yk87_13, yk87_14, yk87_15, yk87_16, yk87_17] yk87_10 = true := by decide +kernel
theorem yx87_11 : y_runC y_hn0 (ytb yw87) 100000 yc87 [yk87_0, yk87_1, yk87_2, yk87_3, yk87_4, yk87_5, yk87_6, yk87_7, yk87_8, yk87_9, yk87_10, yk87_11, yk87_12, yk87_13, yk87_14, yk87_15, yk87_16, yk87_17] yk87_11 = true := by decide +kernel
theorem yx87_12 : y_runC y_hn0 (ytb yw87) 100000 yc87 [yk87_0, yk87_1, yk87_2, yk87_3, yk87_4, yk87_5, yk87_6, yk87_7, yk87_8, yk87_9, yk87_10, yk87_11, yk87_12, yk87_13, yk87_14, yk87_15, yk87_16, yk87_17] yk87_12 = true := by decide +kernel
theorem yx87_13 : y_runC y_hn0 (ytb yw87) 100000 yc87 [yk87_0, yk87_1, yk87_2, yk87_3, yk87_4, yk87_5, yk87_6, yk87_7, yk87_8, yk87_9, yk87_10, yk87_11, yk87_12, yk87_13, yk87_14, yk87_15, yk87_16, yk87_17] yk87_13 = true := by decide +kernel
theorem yx87_14 : y_runC y_hn0 (ytb yw87) 100000 yc87 [yk87_0, yk87_1, yk87_2, yk87_3, yk87_4, yk87_5, yk87_6, yk87_7, yk87_8, yk87_9, yk87_10, yk87_11, yk87_12, yk87_13, yk87_14, yk87_15, yk87_16, yk87_17] yk87_14 = true := by decide +kernel
theorem yx87_15 : y_runC y_hn0 (ytb yw87) 100000 yc87 [yk87_0, yk87_1, yk87_2, yk87_3, yk87_4, yk87_5, yk87_6, yk87_7, yk87_8, yk87_9, yk87_10, yk87_11, yk87_12, yk87_13, yk87_14, yk87_15, yk87_16, yk87_17] yk87_15 = true := by decide +kernel
theorem yx87_16 : y_runC y_hn0 (ytb yw87) 100000 yc87 [yk87_0, yk87_1, yk87_2, yk87_3, yk87_4, yk87_5, yk87_6, yk87_7, yk87_8, yk87_9, yk87_10, yk87_11, yk87_12, yk87_13, yk87_14, yk87_15, yk87_16, yk87_17] yk87_16 = true := by decide +kernel
theorem yx87_17 : y_runC y_hn0 (ytb yw87) 100000 yc87 [yk87_0, yk87_1, yk87_2, yk87_3, yk87_4, yk87_5, yk87_6, yk87_7, yk87_8, yk87_9, yk87_10, yk87_11, yk87_12, yk87_13, yk87_14, yk87_15, yk87_16, yk87_17] yk87_17 = true := by decide +kernel
-- RailwayHouse$Ways.finish: 411 steps
theorem ye88 : y_runE y_hn0 (ytb yw88) 100000 yc88 [yk88_0] = true := by decide +kernel
theorem yx88_0 : y_runC y_hn0 (ytb yw88) 100000 yc88 [yk88_0] yk88_0 = true := by decide +kernel
-- RailwayHouse$Ways.finish: 411 steps
theorem ye89 : y_runE y_hn0 (ytb yw89) 100000 yc89 [yk89_0] = true := by decide +kernel
theorem yx89_0 : y_runC y_hn0 (ytb yw89) 100000 yc89 [yk89_0] yk89_0 = true := by decide +kernel
-- RailwayHouse$Ways.finish: 411 steps
theorem ye90 : y_runE y_hn0 (ytb yw90) 100000 yc90 [yk90_0] = true := by decide +kernel
theorem yx90_0 : y_runC y_hn0 (ytb yw90) 100000 yc90 [yk90_0] yk90_0 = true := by decide +kernel
-- RailwayHouse$Ways.finish: 411 steps
theorem ye91 : y_runE y_hn0 (ytb yw91) 100000 yc91 [yk91_0] = true := by decide +kernel
theorem yx91_0 : y_runC y_hn0 (ytb yw91) 100000 yc91 [yk91_0] yk91_0 = true := by decide +kernel
-- RailwayHouse$Ways.finish: 411 steps
theorem ye92 : y_runE y_hn0 (ytb yw92) 100000 yc92 [yk92_0] = true := by decide +kernel
theorem yx92_0 : y_runC y_hn0 (ytb yw92) 100000 yc92 [yk92_0] yk92_0 = true := by decide +kernel
-- RailwayHouse$Ways.finish: 411 steps
theorem ye93 : y_runE y_hn0 (ytb yw93) 100000 yc93 [yk93_0] = true := by decide +kernel
theorem yx93_0 : y_runC y_hn0 (ytb yw93) 100000 yc93 [yk93_0] yk93_0 = true := by decide +kernel
-- RailwayHouse$Ways.finish: 411 steps
theorem ye94 : y_runE y_hn0 (ytb yw94) 100000 yc94 [yk94_0] = true := by decide +kernel
theorem yx94_0 : y_runC y_hn0 (ytb yw94) 100000 yc94 [yk94_0] yk94_0 = true := by decide +kernel
-- RailwayHouse$Ways.finish: 411 steps
theorem ye95 : y_runE y_hn0 (ytb yw95) 100000 yc95 [yk95_0] = true := by decide +kernel
theorem yx95_0 : y_runC y_hn0 (ytb yw95) 100000 yc95 [yk95_0] yk95_0 = true := by decide +kernel
-- RailwayHouse$Ways.isInWay: 39 steps
theorem ye96 : y_runE y_hn0 (ytb yw96) 100000 yc96 [yk96_0] = true := by decide +kernel
theorem yx96_0 : y_runC y_hn0 (ytb yw96) 100000 yc96 [yk96_0] yk96_0 = true := by decide +kernel
-- RailwayHouse$Ways.keepHeld: 209 steps
theorem ye97 : y_runE y_hn0 (ytb yw97) 100000 yc97 [yk97_0] = true := by decide +kernel
theorem yx97_0 : y_runC y_hn0 (ytb yw97) 100000 yc97 [yk97_0] yk97_0 = true := by decide +kernel
-- RailwayHouse$Ways.keepNeeds: 52 steps
theorem ye98 : y_runE y_hn0 (ytb yw98) 100000 yc98 [yk98_0] = true := by decide +kernel
theorem yx98_0 : y_runC y_hn0 (ytb yw98) 100000 yc98 [yk98_0] yk98_0 = true := by decide +kernel
-- RailwayHouse$Ways.lieOnWay: 1920 steps
theorem ye99 : y_runE y_hn0 (ytb yw99) 100000 yc99 [] = true := by decide +kernel
-- RailwayHouse$Ways.want: 183 steps
theorem ye100 : y_runE y_hn0 (ytb yw100) 100000 yc100 [yk100_0] = true := by decide +kernel
theorem yx100_0 : y_runC y_hn0 (ytb yw100) 100000 yc100 [yk100_0] yk100_0 = true := by decide +kernel
-- RailwayHouse$Ways.wantFlank: 83 steps
theorem ye101 : y_runE y_hn0 (ytb yw101) 100000 yc101 [] = true := by decide +kernel
-- RailwayHouse$Ways.wantedFor: 87 steps
theorem ye102 : y_runE y_hn0 (ytb yw102) 100000 yc102 [yk102_0] = true := by decide +kernel
theorem yx102_0 : y_runC y_hn0 (ytb yw102) 100000 yc102 [yk102_0] yk102_0 = true := by decide +kernel
-- RailwayHouse$Yard.begin: 71 steps
theorem ye103 : y_runE y_hn0 (ytb yw103) 100000 yc103 [yk103_0] = true := by decide +kernel
theorem yx103_0 : y_runC y_hn0 (ytb yw103) 100000 yc103 [yk103_0] yk103_0 = true := by decide +kernel
-- RailwayHouse$Yard.crosses: 255 steps
theorem ye104 : y_runE y_hn0 (ytb yw104) 100000 yc104 [] = true := by decide +kernel
-- RailwayHouse$Yard.firstOn: 67 steps
theorem ye105 : y_runE y_hn0 (ytb yw105) 100000 yc105 [yk105_0] = true := by decide +kernel
theorem yx105_0 : y_runC y_hn0 (ytb yw105) 100000 yc105 [yk105_0] yk105_0 = true := by decide +kernel
-- RailwayHouse$Yard.goOn: 254 steps
theorem ye106 : y_runE y_hn0 (ytb yw106) 100000 yc106 [yk106_0] = true := by decide +kernel
theorem yx106_0 : y_runC y_hn0 (ytb yw106) 100000 yc106 [yk106_0] yk106_0 = true := by decide +kernel
-- RailwayHouse$Yard.isMoving: 49 steps
theorem ye107 : y_runE y_hn0 (ytb yw107) 100000 yc107 [yk107_0] = true := by decide +kernel
theorem yx107_0 : y_runC y_hn0 (ytb yw107) 100000 yc107 [yk107_0] yk107_0 = true := by decide +kernel
-- RailwayHouse$Yard.isSafe: 133 steps
theorem ye108 : y_runE y_hn0 (ytb yw108) 100000 yc108 [yk108_0] = true := by decide +kernel
theorem yx108_0 : y_runC y_hn0 (ytb yw108) 100000 yc108 [yk108_0] yk108_0 = true := by decide +kernel
-- RailwayHouse$Yard.keepsLimits: 87 steps
theorem ye109 : y_runE y_hn0 (ytb yw109) 100000 yc109 [yk109_0] = true := by decide +kernel
theorem yx109_0 : y_runC y_hn0 (ytb yw109) 100000 yc109 [yk109_0] yk109_0 = true := by decide +kernel
-- RailwayHouse$Yard.liesToOne: 215 steps
theorem ye110 : y_runE y_hn0 (ytb yw110) 100000 yc110 [yk110_0] = true := by decide +kernel
theorem yx110_0 : y_runC y_hn0 (ytb yw110) 100000 yc110 [yk110_0] yk110_0 = true := by decide +kernel
-- RailwayHouse$Yard.nextSpeed: 73 steps
theorem ye111 : y_runE y_hn0 (ytb yw111) 100000 yc111 [yk111_0] = true := by decide +kernel
theorem yx111_0 : y_runC y_hn0 (ytb yw111) 100000 yc111 [yk111_0] yk111_0 = true := by decide +kernel
-- RailwayHouse$Yard.pointGoesOn: 95 steps
theorem ye112 : y_runE y_hn0 (ytb yw112) 100000 yc112 [] = true := by decide +kernel
-- RailwayHouse$Yard.pointsGoOn: 109 steps
theorem ye113 : y_runE y_hn0 (ytb yw113) 100000 yc113 [yk113_0] = true := by decide +kernel
theorem yx113_0 : y_runC y_hn0 (ytb yw113) 100000 yc113 [yk113_0] yk113_0 = true := by decide +kernel
-- RailwayHouse$Yard.presentTrain: 37 steps
theorem ye114 : y_runE y_hn0 (ytb yw114) 100000 yc114 [] = true := by decide +kernel
-- RailwayHouse$Yard.survey: 214 steps
theorem ye115 : y_runE y_hn0 (ytb yw115) 100000 yc115 [yk115_0, yk115_1] = true := by decide +kernel
theorem yx115_0 : y_runC y_hn0 (ytb yw115) 100000 yc115 [yk115_0, yk115_1] yk115_0 = true := by decide +kernel
theorem yx115_1 : y_runC y_hn0 (ytb yw115) 100000 yc115 [yk115_0, yk115_1] yk115_1 = true := by decide +kernel
-- RailwayHouse$Yard.surveyAhead: 435 steps
theorem ye116 : y_runE y_hn0 (ytb yw116) 100000 yc116 [yk116_0] = true := by decide +kernel
theorem yx116_0 : y_runC y_hn0 (ytb yw116) 100000 yc116 [yk116_0] yk116_0 = true := by decide +kernel
-- RailwayHouse$Yard.twoOnOne: 65 steps
theorem ye117 : y_runE y_hn0 (ytb yw117) 100000 yc117 [yk117_0] = true := by decide +kernel
theorem yx117_0 : y_runC y_hn0 (ytb yw117) 100000 yc117 [yk117_0] yk117_0 = true := by decide +kernel
-- RailwayHouse.audit: 18 steps
theorem ye118 : y_runE y_hn0 (ytb yw118) 100000 yc118 [] = true := by decide +kernel
-- RailwayHouse.beginYard: 51 steps
theorem ye119 : y_runE y_hn0 (ytb yw119) 100000 yc119 [yk119_0] = true := by decide +kernel
theorem yx119_0 : y_runC y_hn0 (ytb yw119) 100000 yc119 [yk119_0] yk119_0 = true := by decide +kernel
-- RailwayHouse.block: 78 steps
theorem ye120 : y_runE y_hn0 (ytb yw120) 100000 yc120 [] = true := by decide +kernel
-- RailwayHouse.cancel: 32 steps
theorem ye121 : y_runE y_hn0 (ytb yw121) 100000 yc121 [] = true := by decide +kernel
-- RailwayHouse.channel: 68 steps
theorem ye122 : y_runE y_hn0 (ytb yw122) 100000 yc122 [] = true := by decide +kernel
-- RailwayHouse.clear: 45 steps
theorem ye123 : y_runE y_hn0 (ytb yw123) 100000 yc123 [] = true := by decide +kernel
-- RailwayHouse.clearLine: 10 steps
theorem ye124 : y_runE y_hn0 (ytb yw124) 100000 yc124 [] = true := by decide +kernel
-- RailwayHouse.conflict: 54 steps
theorem ye125 : y_runE y_hn0 (ytb yw125) 100000 yc125 [] = true := by decide +kernel
-- RailwayHouse.count: 74 steps
theorem ye126 : y_runE y_hn0 (ytb yw126) 100000 yc126 [] = true := by decide +kernel
-- RailwayHouse.cut: 18 steps
theorem ye127 : y_runE y_hn0 (ytb yw127) 100000 yc127 [] = true := by decide +kernel
-- RailwayHouse.dispatch: 19 steps
theorem ye128 : y_runE y_hn0 (ytb yw128) 100000 yc128 [] = true := by decide +kernel
-- RailwayHouse.end: 17 steps
theorem ye129 : y_runE y_hn0 (ytb yw129) 100000 yc129 [] = true := by decide +kernel
-- RailwayHouse.fault: 71 steps
theorem ye130 : y_runE y_hn0 (ytb yw130) 100000 yc130 [] = true := by decide +kernel
-- RailwayHouse.feed: 513 steps
theorem ye131 : y_runE y_hn0 (ytb yw131) 100000 yc131 [] = true := by decide +kernel
-- RailwayHouse.force: 144 steps
theorem ye132 : y_runE y_hn0 (ytb yw132) 100000 yc132 [] = true := by decide +kernel
-- RailwayHouse.give: 51 steps
theorem ye133 : y_runE y_hn0 (ytb yw133) 100000 yc133 [] = true := by decide +kernel
-- RailwayHouse.hold: 221 steps
theorem ye134 : y_runE y_hn0 (ytb yw134) 100000 yc134 [] = true := by decide +kernel
-- RailwayHouse.holdAt: 48 steps
theorem ye135 : y_runE y_hn0 (ytb yw135) 100000 yc135 [] = true := by decide +kernel
-- RailwayHouse.holder: 101 steps
theorem ye136 : y_runE y_hn0 (ytb yw136) 100000 yc136 [] = true := by decide +kernel
-- RailwayHouse.interpose: 60 steps
theorem ye137 : y_runE y_hn0 (ytb yw137) 100000 yc137 [] = true := by decide +kernel
-- RailwayHouse.journey: 78 steps
theorem ye138 : y_runE y_hn0 (ytb yw138) 100000 yc138 [] = true := by decide +kernel
-- RailwayHouse.leave: 56 steps
theorem ye139 : y_runE y_hn0 (ytb yw139) 100000 yc139 [] = true := by decide +kernel
-- RailwayHouse.leg: 99 steps
theorem ye140 : y_runE y_hn0 (ytb yw140) 100000 yc140 [] = true := by decide +kernel
-- RailwayHouse.lie: 42 steps
theorem ye141 : y_runE y_hn0 (ytb yw141) 100000 yc141 [] = true := by decide +kernel
-- RailwayHouse.line: 178 steps
theorem ye142 : y_runE y_hn0 (ytb yw142) 100000 yc142 [] = true := by decide +kernel
-- RailwayHouse.move: 51 steps
theorem ye143 : y_runE y_hn0 (ytb yw143) 100000 yc143 [] = true := by decide +kernel
