-- RailwayHouse$Ways.findNeeds: 769 steps
theorem ye88 : y_runE y_hn0 (ytb yw88) 100000 yc88 [yk88_0, yk88_1, yk88_2, yk88_3, yk88_4, yk88_5, yk88_6, yk88_7] = true := by decide +kernel
theorem yx88_0 : y_runC y_hn0 (ytb yw88) 100000 yc88 [yk88_0, yk88_1, yk88_2, yk88_3, yk88_4, yk88_5, yk88_6, yk88_7] yk88_0 = true := by decide +kernel
theorem yx88_1 : y_runC y_hn0 (ytb yw88) 100000 yc88 [yk88_0, yk88_1, yk88_2, yk88_3, yk88_4, yk88_5, yk88_6, yk88_7] yk88_1 = true := by decide +kernel
theorem yx88_2 : y_runC y_hn0 (ytb yw88) 100000 yc88 [yk88_0, yk88_1, yk88_2, yk88_3, yk88_4, yk88_5, yk88_6, yk88_7] yk88_2 = true := by decide +kernel
theorem yx88_3 : y_runC y_hn0 (ytb yw88) 100000 yc88 [yk88_0, yk88_1, yk88_2, yk88_3, yk88_4, yk88_5, yk88_6, yk88_7] yk88_3 = true := by decide +kernel
theorem yx88_4 : y_runC y_hn0 (ytb yw88) 100000 yc88 [yk88_0, yk88_1, yk88_2, yk88_3, yk88_4, yk88_5, yk88_6, yk88_7] yk88_4 = true := by decide +kernel
theorem yx88_5 : y_runC y_hn0 (ytb yw88) 100000 yc88 [yk88_0, yk88_1, yk88_2, yk88_3, yk88_4, yk88_5, yk88_6, yk88_7] yk88_5 = true := by decide +kernel
theorem yx88_6 : y_runC y_hn0 (ytb yw88) 100000 yc88 [yk88_0, yk88_1, yk88_2, yk88_3, yk88_4, yk88_5, yk88_6, yk88_7] yk88_6 = true := by decide +kernel
theorem yx88_7 : y_runC y_hn0 (ytb yw88) 100000 yc88 [yk88_0, yk88_1, yk88_2, yk88_3, yk88_4, yk88_5, yk88_6, yk88_7] yk88_7 = true := by decide +kernel
-- RailwayHouse$Ways.findNeeds: 977 steps
theorem ye89 : y_runE y_hn0 (ytb yw89) 100000 yc89 [yk89_0, yk89_1, yk89_2, yk89_3, yk89_4, yk89_5, yk89_6, yk89_7, yk89_8, yk89_9] = true := by decide +kernel
theorem yx89_0 : y_runC y_hn0 (ytb yw89) 100000 yc89 [yk89_0, yk89_1, yk89_2, yk89_3, yk89_4, yk89_5, yk89_6, yk89_7, yk89_8, yk89_9] yk89_0 = true := by decide +kernel
theorem yx89_1 : y_runC y_hn0 (ytb yw89) 100000 yc89 [yk89_0, yk89_1, yk89_2, yk89_3, yk89_4, yk89_5, yk89_6, yk89_7, yk89_8, yk89_9] yk89_1 = true := by decide +kernel
theorem yx89_2 : y_runC y_hn0 (ytb yw89) 100000 yc89 [yk89_0, yk89_1, yk89_2, yk89_3, yk89_4, yk89_5, yk89_6, yk89_7, yk89_8, yk89_9] yk89_2 = true := by decide +kernel
theorem yx89_3 : y_runC y_hn0 (ytb yw89) 100000 yc89 [yk89_0, yk89_1, yk89_2, yk89_3, yk89_4, yk89_5, yk89_6, yk89_7, yk89_8, yk89_9] yk89_3 = true := by decide +kernel
theorem yx89_4 : y_runC y_hn0 (ytb yw89) 100000 yc89 [yk89_0, yk89_1, yk89_2, yk89_3, yk89_4, yk89_5, yk89_6, yk89_7, yk89_8, yk89_9] yk89_4 = true := by decide +kernel
theorem yx89_5 : y_runC y_hn0 (ytb yw89) 100000 yc89 [yk89_0, yk89_1, yk89_2, yk89_3, yk89_4, yk89_5, yk89_6, yk89_7, yk89_8, yk89_9] yk89_5 = true := by decide +kernel
theorem yx89_6 : y_runC y_hn0 (ytb yw89) 100000 yc89 [yk89_0, yk89_1, yk89_2, yk89_3, yk89_4, yk89_5, yk89_6, yk89_7, yk89_8, yk89_9] yk89_6 = true := by decide +kernel
theorem yx89_7 : y_runC y_hn0 (ytb yw89) 100000 yc89 [yk89_0, yk89_1, yk89_2, yk89_3, yk89_4, yk89_5, yk89_6, yk89_7, yk89_8, yk89_9] yk89_7 = true := by decide +kernel
theorem yx89_8 : y_runC y_hn0 (ytb yw89) 100000 yc89 [yk89_0, yk89_1, yk89_2, yk89_3, yk89_4, yk89_5, yk89_6, yk89_7, yk89_8, yk89_9] yk89_8 = true := by decide +kernel
theorem yx89_9 : y_runC y_hn0 (ytb yw89) 100000 yc89 [yk89_0, yk89_1, yk89_2, yk89_3, yk89_4, yk89_5, yk89_6, yk89_7, yk89_8, yk89_9] yk89_9 = true := by decide +kernel
-- RailwayHouse$Ways.findNeeds: 1185 steps
theorem ye90 : y_runE y_hn0 (ytb yw90) 100000 yc90 [yk90_0, yk90_1, yk90_2, yk90_3, yk90_4, yk90_5, yk90_6, yk90_7, yk90_8, yk90_9, yk90_10, yk90_11] = true := by decide +kernel
theorem yx90_0 : y_runC y_hn0 (ytb yw90) 100000 yc90 [yk90_0, yk90_1, yk90_2, yk90_3, yk90_4, yk90_5, yk90_6, yk90_7, yk90_8, yk90_9, yk90_10, yk90_11] yk90_0 = true := by decide +kernel
theorem yx90_1 : y_runC y_hn0 (ytb yw90) 100000 yc90 [yk90_0, yk90_1, yk90_2, yk90_3, yk90_4, yk90_5, yk90_6, yk90_7, yk90_8, yk90_9, yk90_10, yk90_11] yk90_1 = true := by decide +kernel
theorem yx90_2 : y_runC y_hn0 (ytb yw90) 100000 yc90 [yk90_0, yk90_1, yk90_2, yk90_3, yk90_4, yk90_5, yk90_6, yk90_7, yk90_8, yk90_9, yk90_10, yk90_11] yk90_2 = true := by decide +kernel
theorem yx90_3 : y_runC y_hn0 (ytb yw90) 100000 yc90 [yk90_0, yk90_1, yk90_2, yk90_3, yk90_4, yk90_5, yk90_6, yk90_7, yk90_8, yk90_9, yk90_10, yk90_11] yk90_3 = true := by decide +kernel
theorem yx90_4 : y_runC y_hn0 (ytb yw90) 100000 yc90 [yk90_0, yk90_1, yk90_2, yk90_3, yk90_4, yk90_5, yk90_6, yk90_7, yk90_8, yk90_9, yk90_10, yk90_11] yk90_4 = true := by decide +kernel
theorem yx90_5 : y_runC y_hn0 (ytb yw90) 100000 yc90 [yk90_0, yk90_1, yk90_2, yk90_3, yk90_4, yk90_5, yk90_6, yk90_7, yk90_8, yk90_9, yk90_10, yk90_11] yk90_5 = true := by decide +kernel
theorem yx90_6 : y_runC y_hn0 (ytb yw90) 100000 yc90 [yk90_0, yk90_1, yk90_2, yk90_3, yk90_4, yk90_5, yk90_6, yk90_7, yk90_8, yk90_9, yk90_10, yk90_11] yk90_6 = true := by decide +kernel
theorem yx90_7 : y_runC y_hn0 (ytb yw90) 100000 yc90 [yk90_0, yk90_1, yk90_2, yk90_3, yk90_4, yk90_5, yk90_6, yk90_7, yk90_8, yk90_9, yk90_10, yk90_11] yk90_7 = true := by decide +kernel
theorem yx90_8 : y_runC y_hn0 (ytb yw90) 100000 yc90 [yk90_0, yk90_1, yk90_2, yk90_3, yk90_4, yk90_5, yk90_6, yk90_7, yk90_8, yk90_9, yk90_10, yk90_11] yk90_8 = true := by decide +kernel
theorem yx90_9 : y_runC y_hn0 (ytb yw90) 100000 yc90 [yk90_0, yk90_1, yk90_2, yk90_3, yk90_4, yk90_5, yk90_6, yk90_7, yk90_8, yk90_9, yk90_10, yk90_11] yk90_9 = true := by decide +kernel
theorem yx90_10 : y_runC y_hn0 (ytb yw90) 100000 yc90 [yk90_0, yk90_1, yk90_2, yk90_3, yk90_4, yk90_5, yk90_6, yk90_7, yk90_8, yk90_9, yk90_10, yk90_11] yk90_10 = true := by decide +kernel
theorem yx90_11 : y_runC y_hn0 (ytb yw90) 100000 yc90 [yk90_0, yk90_1, yk90_2, yk90_3, yk90_4, yk90_5, yk90_6, yk90_7, yk90_8, yk90_9, yk90_10, yk90_11] yk90_11 = true := by decide +kernel
-- RailwayHouse$Ways.findNeeds: 1393 steps
theorem ye91 : y_runE y_hn0 (ytb yw91) 100000 yc91 [yk91_0, yk91_1, yk91_2, yk91_3, yk91_4, yk91_5, yk91_6, yk91_7, yk91_8, yk91_9, yk91_10, yk91_11, yk91_12, yk91_13] = true := by decide +kernel
theorem yx91_0 : y_runC y_hn0 (ytb yw91) 100000 yc91 [yk91_0, yk91_1, yk91_2, yk91_3, yk91_4, yk91_5, yk91_6, yk91_7, yk91_8, yk91_9, yk91_10, yk91_11, yk91_12, yk91_13] yk91_0 = true := by decide +kernel
theorem yx91_1 : y_runC y_hn0 (ytb yw91) 100000 yc91 [yk91_0, yk91_1, yk91_2, yk91_3, yk91_4, yk91_5, yk91_6, yk91_7, yk91_8, yk91_9, yk91_10, yk91_11, yk91_12, yk91_13] yk91_1 = true := by decide +kernel
theorem yx91_2 : y_runC y_hn0 (ytb yw91) 100000 yc91 [yk91_0, yk91_1, yk91_2, yk91_3, yk91_4, yk91_5, yk91_6, yk91_7, yk91_8, yk91_9, yk91_10, yk91_11, yk91_12, yk91_13] yk91_2 = true := by decide +kernel
theorem yx91_3 : y_runC y_hn0 (ytb yw91) 100000 yc91 [yk91_0, yk91_1, yk91_2, yk91_3, yk91_4, yk91_5, yk91_6, yk91_7, yk91_8, yk91_9, yk91_10, yk91_11, yk91_12, yk91_13] yk91_3 = true := by decide +kernel
theorem yx91_4 : y_runC y_hn0 (ytb yw91) 100000 yc91 [yk91_0, yk91_1, yk91_2, yk91_3, yk91_4, yk91_5, yk91_6, yk91_7, yk91_8, yk91_9, yk91_10, yk91_11, yk91_12, yk91_13] yk91_4 = true := by decide +kernel
theorem yx91_5 : y_runC y_hn0 (ytb yw91) 100000 yc91 [yk91_0, yk91_1, yk91_2, yk91_3, yk91_4, yk91_5, yk91_6, yk91_7, yk91_8, yk91_9, yk91_10, yk91_11, yk91_12, yk91_13] yk91_5 = true := by decide +kernel
theorem yx91_6 : y_runC y_hn0 (ytb yw91) 100000 yc91 [yk91_0, yk91_1, yk91_2, yk91_3, yk91_4, yk91_5, yk91_6, yk91_7, yk91_8, yk91_9, yk91_10, yk91_11, yk91_12, yk91_13] yk91_6 = true := by decide +kernel
theorem yx91_7 : y_runC y_hn0 (ytb yw91) 100000 yc91 [yk91_0, yk91_1, yk91_2, yk91_3, yk91_4, yk91_5, yk91_6, yk91_7, yk91_8, yk91_9, yk91_10, yk91_11, yk91_12, yk91_13] yk91_7 = true := by decide +kernel
theorem yx91_8 : y_runC y_hn0 (ytb yw91) 100000 yc91 [yk91_0, yk91_1, yk91_2, yk91_3, yk91_4, yk91_5, yk91_6, yk91_7, yk91_8, yk91_9, yk91_10, yk91_11, yk91_12, yk91_13] yk91_8 = true := by decide +kernel
theorem yx91_9 : y_runC y_hn0 (ytb yw91) 100000 yc91 [yk91_0, yk91_1, yk91_2, yk91_3, yk91_4, yk91_5, yk91_6, yk91_7, yk91_8, yk91_9, yk91_10, yk91_11, yk91_12, yk91_13] yk91_9 = true := by decide +kernel
theorem yx91_10 : y_runC y_hn0 (ytb yw91) 100000 yc91 [yk91_0, yk91_1, yk91_2, yk91_3, yk91_4, yk91_5, yk91_6, yk91_7, yk91_8, yk91_9, yk91_10, yk91_11, yk91_12, yk91_13] yk91_10 = true := by decide +kernel
theorem yx91_11 : y_runC y_hn0 (ytb yw91) 100000 yc91 [yk91_0, yk91_1, yk91_2, yk91_3, yk91_4, yk91_5, yk91_6, yk91_7, yk91_8, yk91_9, yk91_10, yk91_11, yk91_12, yk91_13] yk91_11 = true := by decide +kernel
theorem yx91_12 : y_runC y_hn0 (ytb yw91) 100000 yc91 [yk91_0, yk91_1, yk91_2, yk91_3, yk91_4, yk91_5, yk91_6, yk91_7, yk91_8, yk91_9, yk91_10, yk91_11, yk91_12, yk91_13] yk91_12 = true := by decide +kernel
theorem yx91_13 : y_runC y_hn0 (ytb yw91) 100000 yc91 [yk91_0, yk91_1, yk91_2, yk91_3, yk91_4, yk91_5, yk91_6, yk91_7, yk91_8, yk91_9, yk91_10, yk91_11, yk91_12, yk91_13] yk91_13 = true := by decide +kernel
-- RailwayHouse$Ways.findNeeds: 1601 steps
theorem ye92 : y_runE y_hn0 (ytb yw92) 100000 yc92 [yk92_0, yk92_1, yk92_2, yk92_3, yk92_4, yk92_5, yk92_6, yk92_7, yk92_8, yk92_9, yk92_10, yk92_11, yk92_12, yk92_13, yk92_14, yk92_15] = true := by decide +kernel
theorem yx92_0 : y_runC y_hn0 (ytb yw92) 100000 yc92 [yk92_0, yk92_1, yk92_2, yk92_3, yk92_4, yk92_5, yk92_6, yk92_7, yk92_8, yk92_9, yk92_10, yk92_11, yk92_12, yk92_13, yk92_14, yk92_15] yk92_0 = true := by decide +kernel
theorem yx92_1 : y_runC y_hn0 (ytb yw92) 100000 yc92 [yk92_0, yk92_1, yk92_2, yk92_3, yk92_4, yk92_5, yk92_6, yk92_7, yk92_8, yk92_9, yk92_10, yk92_11, yk92_12, yk92_13, yk92_14, yk92_15] yk92_1 = true := by decide +kernel
theorem yx92_2 : y_runC y_hn0 (ytb yw92) 100000 yc92 [yk92_0, yk92_1, yk92_2, yk92_3, yk92_4, yk92_5, yk92_6, yk92_7, yk92_8, yk92_9, yk92_10, yk92_11, yk92_12, yk92_13, yk92_14, yk92_15] yk92_2 = true := by decide +kernel
theorem yx92_3 : y_runC y_hn0 (ytb yw92) 100000 yc92 [yk92_0, yk92_1, yk92_2, yk92_3, yk92_4, yk92_5, yk92_6, yk92_7, yk92_8, yk92_9, yk92_10, yk92_11, yk92_12, yk92_13, yk92_14, yk92_15] yk92_3 = true := by decide +kernel
theorem yx92_4 : y_runC y_hn0 (ytb yw92) 100000 yc92 [yk92_0, yk92_1, yk92_2, yk92_3, yk92_4, yk92_5, yk92_6, yk92_7, yk92_8, yk92_9, yk92_10, yk92_11, yk92_12, yk92_13, yk92_14, yk92_15] yk92_4 = true := by decide +kernel
theorem yx92_5 : y_runC y_hn0 (ytb yw92) 100000 yc92 [yk92_0, yk92_1, yk92_2, yk92_3, yk92_4, yk92_5, yk92_6, yk92_7, yk92_8, yk92_9, yk92_10, yk92_11, yk92_12, yk92_13, yk92_14, yk92_15] yk92_5 = true := by decide +kernel
theorem yx92_6 : y_runC y_hn0 (ytb yw92) 100000 yc92 [yk92_0, yk92_1, yk92_2, yk92_3, yk92_4, yk92_5, yk92_6, yk92_7, yk92_8, yk92_9, yk92_10, yk92_11, yk92_12, yk92_13, yk92_14, yk92_15] yk92_6 = true := by decide +kernel
theorem yx92_7 : y_runC y_hn0 (ytb yw92) 100000 yc92 [yk92_0, yk92_1, yk92_2, yk92_3, yk92_4, yk92_5, yk92_6, yk92_7, yk92_8, yk92_9, yk92_10, yk92_11, yk92_12, yk92_13, yk92_14, yk92_15] yk92_7 = true := by decide +kernel
theorem yx92_8 : y_runC y_hn0 (ytb yw92) 100000 yc92 [yk92_0, yk92_1, yk92_2, yk92_3, yk92_4, yk92_5, yk92_6, yk92_7, yk92_8, yk92_9, yk92_10, yk92_11, yk92_12, yk92_13, yk92_14, yk92_15] yk92_8 = true := by decide +kernel
theorem yx92_9 : y_runC y_hn0 (ytb yw92) 100000 yc92 [yk92_0, yk92_1, yk92_2, yk92_3, yk92_4, yk92_5, yk92_6, yk92_7, yk92_8, yk92_9, yk92_10, yk92_11, yk92_12, yk92_13, yk92_14, yk92_15] yk92_9 = true := by decide +kernel
theorem yx92_10 : y_runC y_hn0 (ytb yw92) 100000 yc92 [yk92_0, yk92_1, yk92_2, yk92_3, yk92_4, yk92_5, yk92_6, yk92_7, yk92_8, yk92_9, yk92_10, yk92_11, yk92_12, yk92_13, yk92_14, yk92_15] yk92_10 = true := by decide +kernel
theorem yx92_11 : y_runC y_hn0 (ytb yw92) 100000 yc92 [yk92_0, yk92_1, yk92_2, yk92_3, yk92_4, yk92_5, yk92_6, yk92_7, yk92_8, yk92_9, yk92_10, yk92_11, yk92_12, yk92_13, yk92_14, yk92_15] yk92_11 = true := by decide +kernel
theorem yx92_12 : y_runC y_hn0 (ytb yw92) 100000 yc92 [yk92_0, yk92_1, yk92_2, yk92_3, yk92_4, yk92_5, yk92_6, yk92_7, yk92_8, yk92_9, yk92_10, yk92_11, yk92_12, yk92_13, yk92_14, yk92_15] yk92_12 = true := by decide +kernel
theorem yx92_13 : y_runC y_hn0 (ytb yw92) 100000 yc92 [yk92_0, yk92_1, yk92_2, yk92_3, yk92_4, yk92_5, yk92_6, yk92_7, yk92_8, yk92_9, yk92_10, yk92_11, yk92_12, yk92_13, yk92_14, yk92_15] yk92_13 = true := by decide +kernel
theorem yx92_14 : y_runC y_hn0 (ytb yw92) 100000 yc92 [yk92_0, yk92_1, yk92_2, yk92_3, yk92_4, yk92_5, yk92_6, yk92_7, yk92_8, yk92_9, yk92_10, yk92_11, yk92_12, yk92_13, yk92_14, yk92_15] yk92_14 = true := by decide +kernel
theorem yx92_15 : y_runC y_hn0 (ytb yw92) 100000 yc92 [yk92_0, yk92_1, yk92_2, yk92_3, yk92_4, yk92_5, yk92_6, yk92_7, yk92_8, yk92_9, yk92_10, yk92_11, yk92_12, yk92_13, yk92_14, yk92_15] yk92_15 = true := by decide +kernel
-- RailwayHouse$Ways.findNeeds: 1809 steps
theorem ye93 : y_runE y_hn0 (ytb yw93) 100000 yc93 [yk93_0, yk93_1, yk93_2, yk93_3, yk93_4, yk93_5, yk93_6, yk93_7, yk93_8, yk93_9, yk93_10, yk93_11, yk93_12, yk93_13, yk93_14, yk93_15, yk93_16, yk93_17] = true := by decide +kernel
theorem yx93_0 : y_runC y_hn0 (ytb yw93) 100000 yc93 [yk93_0, yk93_1, yk93_2, yk93_3, yk93_4, yk93_5, yk93_6, yk93_7, yk93_8, yk93_9, yk93_10, yk93_11, yk93_12, yk93_13, yk93_14, yk93_15, yk93_16, yk93_17] yk93_0 = true := by decide +kernel
theorem yx93_1 : y_runC y_hn0 (ytb yw93) 100000 yc93 [yk93_0, yk93_1, yk93_2, yk93_3, yk93_4, yk93_5, yk93_6, yk93_7, yk93_8, yk93_9, yk93_10, yk93_11, yk93_12, yk93_13, yk93_14, yk93_15, yk93_16, yk93_17] yk93_1 = true := by decide +kernel
theorem yx93_2 : y_runC y_hn0 (ytb yw93) 100000 yc93 [yk93_0, yk93_1, yk93_2, yk93_3, yk93_4, yk93_5, yk93_6, yk93_7, yk93_8, yk93_9, yk93_10, yk93_11, yk93_12, yk93_13, yk93_14, yk93_15, yk93_16, yk93_17] yk93_2 = true := by decide +kernel
theorem yx93_3 : y_runC y_hn0 (ytb yw93) 100000 yc93 [yk93_0, yk93_1, yk93_2, yk93_3, yk93_4, yk93_5, yk93_6, yk93_7, yk93_8, yk93_9, yk93_10, yk93_11, yk93_12, yk93_13, yk93_14, yk93_15, yk93_16, yk93_17] yk93_3 = true := by decide +kernel
theorem yx93_4 : y_runC y_hn0 (ytb yw93) 100000 yc93 [yk93_0, yk93_1, yk93_2, yk93_3, yk93_4, yk93_5, yk93_6, yk93_7, yk93_8, yk93_9, yk93_10, yk93_11, yk93_12, yk93_13, yk93_14, yk93_15, yk93_16, yk93_17] yk93_4 = true := by decide +kernel
theorem yx93_5 : y_runC y_hn0 (ytb yw93) 100000 yc93 [yk93_0, yk93_1, yk93_2, yk93_3, yk93_4, yk93_5, yk93_6, yk93_7, yk93_8, yk93_9, yk93_10, yk93_11, yk93_12, yk93_13, yk93_14, yk93_15, yk93_16, yk93_17] yk93_5 = true := by decide +kernel
theorem yx93_6 : y_runC y_hn0 (ytb yw93) 100000 yc93 [yk93_0, yk93_1, yk93_2, yk93_3, yk93_4, yk93_5, yk93_6, yk93_7, yk93_8, yk93_9, yk93_10, yk93_11, yk93_12, yk93_13, yk93_14, yk93_15, yk93_16, yk93_17] yk93_6 = true := by decide +kernel
theorem yx93_7 : y_runC y_hn0 (ytb yw93) 100000 yc93 [yk93_0, yk93_1, yk93_2, yk93_3, yk93_4, yk93_5, yk93_6, yk93_7, yk93_8, yk93_9, yk93_10, yk93_11, yk93_12, yk93_13, yk93_14, yk93_15, yk93_16, yk93_17] yk93_7 = true := by decide +kernel
theorem yx93_8 : y_runC y_hn0 (ytb yw93) 100000 yc93 [yk93_0, yk93_1, yk93_2, yk93_3, yk93_4, yk93_5, yk93_6, yk93_7, yk93_8, yk93_9, yk93_10, yk93_11, yk93_12, yk93_13, yk93_14, yk93_15, yk93_16, yk93_17] yk93_8 = true := by decide +kernel
theorem yx93_9 : y_runC y_hn0 (ytb yw93) 100000 yc93 [yk93_0, yk93_1, yk93_2, yk93_3, yk93_4, yk93_5, yk93_6, yk93_7, yk93_8, yk93_9, yk93_10, yk93_11, yk93_12, yk93_13, yk93_14, yk93_15, yk93_16, yk93_17] yk93_9 = true := by decide +kernel
theorem yx93_10 : y_runC y_hn0 (ytb yw93) 100000 yc93 [yk93_0, yk93_1, yk93_2, yk93_3, yk93_4, yk93_5, yk93_6, yk93_7, yk93_8, yk93_9, yk93_10, yk93_11, yk93_12, yk93_13, yk93_14, yk93_15, yk93_16, yk93_17] yk93_10 = true := by decide +kernel
theorem yx93_11 : y_runC y_hn0 (ytb yw93) 100000 yc93 [yk93_0, yk93_1, yk93_2, yk93_3, yk93_4, yk93_5, yk93_6, yk93_7, yk93_8, yk93_9, yk93_10, yk93_11, yk93_12, yk93_13, yk93_14, yk93_15, yk93_16, yk93_17] yk93_11 = true := by decide +kernel
theorem yx93_12 : y_runC y_hn0 (ytb yw93) 100000 yc93 [yk93_0, yk93_1, yk93_2, yk93_3, yk93_4, yk93_5, yk93_6, yk93_7, yk93_8, yk93_9, yk93_10, yk93_11, yk93_12, yk93_13, yk93_14, yk93_15, yk93_16, yk93_17] yk93_12 = true := by decide +kernel
theorem yx93_13 : y_runC y_hn0 (ytb yw93) 100000 yc93 [yk93_0, yk93_1, yk93_2, yk93_3, yk93_4, yk93_5, yk93_6, yk93_7, yk93_8, yk93_9, yk93_10, yk93_11, yk93_12, yk93_13, yk93_14, yk93_15, yk93_16, yk93_17] yk93_13 = true := by decide +kernel
theorem yx93_14 : y_runC y_hn0 (ytb yw93) 100000 yc93 [yk93_0, yk93_1, yk93_2, yk93_3, yk93_4, yk93_5, yk93_6, yk93_7, yk93_8, yk93_9, yk93_10, yk93_11, yk93_12, yk93_13, yk93_14, yk93_15, yk93_16, yk93_17] yk93_14 = true := by decide +kernel
theorem yx93_15 : y_runC y_hn0 (ytb yw93) 100000 yc93 [yk93_0, yk93_1, yk93_2, yk93_3, yk93_4, yk93_5, yk93_6, yk93_7, yk93_8, yk93_9, yk93_10, yk93_11, yk93_12, yk93_13, yk93_14, yk93_15, yk93_16, yk93_17] yk93_15 = true := by decide +kernel
theorem yx93_16 : y_runC y_hn0 (ytb yw93) 100000 yc93 [yk93_0, yk93_1, yk93_2, yk93_3, yk93_4, yk93_5, yk93_6, yk93_7, yk93_8, yk93_9, yk93_10, yk93_11, yk93_12, yk93_13, yk93_14, yk93_15, yk93_16, yk93_17] yk93_16 = true := by decide +kernel
theorem yx93_17 : y_runC y_hn0 (ytb yw93) 100000 yc93 [yk93_0, yk93_1, yk93_2, yk93_3, yk93_4, yk93_5, yk93_6, yk93_7, yk93_8, yk93_9, yk93_10, yk93_11, yk93_12, yk93_13, yk93_14, yk93_15, yk93_16, yk93_17] yk93_17 = true := by decide +kernel
-- RailwayHouse$Ways.finish: 411 steps
theorem ye94 : y_runE y_hn0 (ytb yw94) 100000 yc94 [yk94_0] = true := by decide +kernel
theorem yx94_0 : y_runC y_hn0 (ytb yw94) 100000 yc94 [yk94_0] yk94_0 = true := by decide +kernel
-- RailwayHouse$Ways.finish: 411 steps
theorem ye95 : y_runE y_hn0 (ytb yw95) 100000 yc95 [yk95_0] = true := by decide +kernel
theorem yx95_0 : y_runC y_hn0 (ytb yw95) 100000 yc95 [yk95_0] yk95_0 = true := by decide +kernel
-- RailwayHouse$Ways.finish: 411 steps
theorem ye96 : y_runE y_hn0 (ytb yw96) 100000 yc96 [yk96_0] = true := by decide +kernel
theorem yx96_0 : y_runC y_hn0 (ytb yw96) 100000 yc96 [yk96_0] yk96_0 = true := by decide +kernel
-- RailwayHouse$Ways.finish: 411 steps
theorem ye97 : y_runE y_hn0 (ytb yw97) 100000 yc97 [yk97_0] = true := by decide +kernel
theorem yx97_0 : y_runC y_hn0 (ytb yw97) 100000 yc97 [yk97_0] yk97_0 = true := by decide +kernel
-- RailwayHouse$Ways.finish: 411 steps
theorem ye98 : y_runE y_hn0 (ytb yw98) 100000 yc98 [yk98_0] = true := by decide +kernel
theorem yx98_0 : y_runC y_hn0 (ytb yw98) 100000 yc98 [yk98_0] yk98_0 = true := by decide +kernel
-- RailwayHouse$Ways.finish: 411 steps
theorem ye99 : y_runE y_hn0 (ytb yw99) 100000 yc99 [yk99_0] = true := by decide +kernel
theorem yx99_0 : y_runC y_hn0 (ytb yw99) 100000 yc99 [yk99_0] yk99_0 = true := by decide +kernel
-- RailwayHouse$Ways.finish: 411 steps
theorem ye100 : y_runE y_hn0 (ytb yw100) 100000 yc100 [yk100_0] = true := by decide +kernel
theorem yx100_0 : y_runC y_hn0 (ytb yw100) 100000 yc100 [yk100_0] yk100_0 = true := by decide +kernel
-- RailwayHouse$Ways.finish: 411 steps
theorem ye101 : y_runE y_hn0 (ytb yw101) 100000 yc101 [yk101_0] = true := by decide +kernel
theorem yx101_0 : y_runC y_hn0 (ytb yw101) 100000 yc101 [yk101_0] yk101_0 = true := by decide +kernel
-- RailwayHouse$Ways.isInWay: 39 steps
theorem ye102 : y_runE y_hn0 (ytb yw102) 100000 yc102 [yk102_0] = true := by decide +kernel
theorem yx102_0 : y_runC y_hn0 (ytb yw102) 100000 yc102 [yk102_0] yk102_0 = true := by decide +kernel
-- RailwayHouse$Ways.keepHeld: 209 steps
theorem ye103 : y_runE y_hn0 (ytb yw103) 100000 yc103 [yk103_0] = true := by decide +kernel
theorem yx103_0 : y_runC y_hn0 (ytb yw103) 100000 yc103 [yk103_0] yk103_0 = true := by decide +kernel
-- RailwayHouse$Ways.keepNeeds: 52 steps
theorem ye104 : y_runE y_hn0 (ytb yw104) 100000 yc104 [yk104_0] = true := by decide +kernel
theorem yx104_0 : y_runC y_hn0 (ytb yw104) 100000 yc104 [yk104_0] yk104_0 = true := by decide +kernel
-- RailwayHouse$Ways.lieOnWay: 1920 steps
theorem ye105 : y_runE y_hn0 (ytb yw105) 100000 yc105 [] = true := by decide +kernel
