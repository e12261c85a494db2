-- RailwayHouse$Ways.findNeeds: 769 steps
theorem ye84 : y_runE y_hn0 (ytb yw84) 100000 yc84 [yk84_0, yk84_1, yk84_2, yk84_3, yk84_4, yk84_5, yk84_6, yk84_7] = true := by decide +kernel
theorem yx84_0 : y_runC y_hn0 (ytb yw84) 100000 yc84 [yk84_0, yk84_1, yk84_2, yk84_3, yk84_4, yk84_5, yk84_6, yk84_7] yk84_0 = true := by decide +kernel
theorem yx84_1 : y_runC y_hn0 (ytb yw84) 100000 yc84 [yk84_0, yk84_1, yk84_2, yk84_3, yk84_4, yk84_5, yk84_6, yk84_7] yk84_1 = true := by decide +kernel
theorem yx84_2 : y_runC y_hn0 (ytb yw84) 100000 yc84 [yk84_0, yk84_1, yk84_2, yk84_3, yk84_4, yk84_5, yk84_6, yk84_7] yk84_2 = true := by decide +kernel
theorem yx84_3 : y_runC y_hn0 (ytb yw84) 100000 yc84 [yk84_0, yk84_1, yk84_2, yk84_3, yk84_4, yk84_5, yk84_6, yk84_7] yk84_3 = true := by decide +kernel
theorem yx84_4 : y_runC y_hn0 (ytb yw84) 100000 yc84 [yk84_0, yk84_1, yk84_2, yk84_3, yk84_4, yk84_5, yk84_6, yk84_7] yk84_4 = true := by decide +kernel
theorem yx84_5 : y_runC y_hn0 (ytb yw84) 100000 yc84 [yk84_0, yk84_1, yk84_2, yk84_3, yk84_4, yk84_5, yk84_6, yk84_7] yk84_5 = true := by decide +kernel
theorem yx84_6 : y_runC y_hn0 (ytb yw84) 100000 yc84 [yk84_0, yk84_1, yk84_2, yk84_3, yk84_4, yk84_5, yk84_6, yk84_7] yk84_6 = true := by decide +kernel
theorem yx84_7 : y_runC y_hn0 (ytb yw84) 100000 yc84 [yk84_0, yk84_1, yk84_2, yk84_3, yk84_4, yk84_5, yk84_6, yk84_7] yk84_7 = true := by decide +kernel
-- RailwayHouse$Ways.findNeeds: 977 steps
theorem ye85 : y_runE y_hn0 (ytb yw85) 100000 yc85 [yk85_0, yk85_1, yk85_2, yk85_3, yk85_4, yk85_5, yk85_6, yk85_7, yk85_8, yk85_9] = true := by decide +kernel
theorem yx85_0 : y_runC y_hn0 (ytb yw85) 100000 yc85 [yk85_0, yk85_1, yk85_2, yk85_3, yk85_4, yk85_5, yk85_6, yk85_7, yk85_8, yk85_9] yk85_0 = true := by decide +kernel
theorem yx85_1 : y_runC y_hn0 (ytb yw85) 100000 yc85 [yk85_0, yk85_1, yk85_2, yk85_3, yk85_4, yk85_5, yk85_6, yk85_7, yk85_8, yk85_9] yk85_1 = true := by decide +kernel
theorem yx85_2 : y_runC y_hn0 (ytb yw85) 100000 yc85 [yk85_0, yk85_1, yk85_2, yk85_3, yk85_4, yk85_5, yk85_6, yk85_7, yk85_8, yk85_9] yk85_2 = true := by decide +kernel
theorem yx85_3 : y_runC y_hn0 (ytb yw85) 100000 yc85 [yk85_0, yk85_1, yk85_2, yk85_3, yk85_4, yk85_5, yk85_6, yk85_7, yk85_8, yk85_9] yk85_3 = true := by decide +kernel
theorem yx85_4 : y_runC y_hn0 (ytb yw85) 100000 yc85 [yk85_0, yk85_1, yk85_2, yk85_3, yk85_4, yk85_5, yk85_6, yk85_7, yk85_8, yk85_9] yk85_4 = true := by decide +kernel
theorem yx85_5 : y_runC y_hn0 (ytb yw85) 100000 yc85 [yk85_0, yk85_1, yk85_2, yk85_3, yk85_4, yk85_5, yk85_6, yk85_7, yk85_8, yk85_9] yk85_5 = true := by decide +kernel
theorem yx85_6 : y_runC y_hn0 (ytb yw85) 100000 yc85 [yk85_0, yk85_1, yk85_2, yk85_3, yk85_4, yk85_5, yk85_6, yk85_7, yk85_8, yk85_9] yk85_6 = true := by decide +kernel
theorem yx85_7 : y_runC y_hn0 (ytb yw85) 100000 yc85 [yk85_0, yk85_1, yk85_2, yk85_3, yk85_4, yk85_5, yk85_6, yk85_7, yk85_8, yk85_9] yk85_7 = true := by decide +kernel
theorem yx85_8 : y_runC y_hn0 (ytb yw85) 100000 yc85 [yk85_0, yk85_1, yk85_2, yk85_3, yk85_4, yk85_5, yk85_6, yk85_7, yk85_8, yk85_9] yk85_8 = true := by decide +kernel
theorem yx85_9 : y_runC y_hn0 (ytb yw85) 100000 yc85 [yk85_0, yk85_1, yk85_2, yk85_3, yk85_4, yk85_5, yk85_6, yk85_7, yk85_8, yk85_9] yk85_9 = true := by decide +kernel
-- RailwayHouse$Ways.findNeeds: 1185 steps
theorem ye86 : y_runE y_hn0 (ytb yw86) 100000 yc86 [yk86_0, yk86_1, yk86_2, yk86_3, yk86_4, yk86_5, yk86_6, yk86_7, yk86_8, yk86_9, yk86_10, yk86_11] = true := by decide +kernel
theorem yx86_0 : y_runC y_hn0 (ytb yw86) 100000 yc86 [yk86_0, yk86_1, yk86_2, yk86_3, yk86_4, yk86_5, yk86_6, yk86_7, yk86_8, yk86_9, yk86_10, yk86_11] yk86_0 = true := by decide +kernel
theorem yx86_1 : y_runC y_hn0 (ytb yw86) 100000 yc86 [yk86_0, yk86_1, yk86_2, yk86_3, yk86_4, yk86_5, yk86_6, yk86_7, yk86_8, yk86_9, yk86_10, yk86_11] yk86_1 = true := by decide +kernel
theorem yx86_2 : y_runC y_hn0 (ytb yw86) 100000 yc86 [yk86_0, yk86_1, yk86_2, yk86_3, yk86_4, yk86_5, yk86_6, yk86_7, yk86_8, yk86_9, yk86_10, yk86_11] yk86_2 = true := by decide +kernel
theorem yx86_3 : y_runC y_hn0 (ytb yw86) 100000 yc86 [yk86_0, yk86_1, yk86_2, yk86_3, yk86_4, yk86_5, yk86_6, yk86_7, yk86_8, yk86_9, yk86_10, yk86_11] yk86_3 = true := by decide +kernel
theorem yx86_4 : y_runC y_hn0 (ytb yw86) 100000 yc86 [yk86_0, yk86_1, yk86_2, yk86_3, yk86_4, yk86_5, yk86_6, yk86_7, yk86_8, yk86_9, yk86_10, yk86_11] yk86_4 = true := by decide +kernel
theorem yx86_5 : y_runC y_hn0 (ytb yw86) 100000 yc86 [yk86_0, yk86_1, yk86_2, yk86_3, yk86_4, yk86_5, yk86_6, yk86_7, yk86_8, yk86_9, yk86_10, yk86_11] yk86_5 = true := by decide +kernel
theorem yx86_6 : y_runC y_hn0 (ytb yw86) 100000 yc86 [yk86_0, yk86_1, yk86_2, yk86_3, yk86_4, yk86_5, yk86_6, yk86_7, yk86_8, yk86_9, yk86_10, yk86_11] yk86_6 = true := by decide +kernel
theorem yx86_7 : y_runC y_hn0 (ytb yw86) 100000 yc86 [yk86_0, yk86_1, yk86_2, yk86_3, yk86_4, yk86_5, yk86_6, yk86_7, yk86_8, yk86_9, yk86_10, yk86_11] yk86_7 = true := by decide +kernel
theorem yx86_8 : y_runC y_hn0 (ytb yw86) 100000 yc86 [yk86_0, yk86_1, yk86_2, yk86_3, yk86_4, yk86_5, yk86_6, yk86_7, yk86_8, yk86_9, yk86_10, yk86_11] yk86_8 = true := by decide +kernel
theorem yx86_9 : y_runC y_hn0 (ytb yw86) 100000 yc86 [yk86_0, yk86_1, yk86_2, yk86_3, yk86_4, yk86_5, yk86_6, yk86_7, yk86_8, yk86_9, yk86_10, yk86_11] yk86_9 = true := by decide +kernel
theorem yx86_10 : y_runC y_hn0 (ytb yw86) 100000 yc86 [yk86_0, yk86_1, yk86_2, yk86_3, yk86_4, yk86_5, yk86_6, yk86_7, yk86_8, yk86_9, yk86_10, yk86_11] yk86_10 = true := by decide +kernel
theorem yx86_11 : y_runC y_hn0 (ytb yw86) 100000 yc86 [yk86_0, yk86_1, yk86_2, yk86_3, yk86_4, yk86_5, yk86_6, yk86_7, yk86_8, yk86_9, yk86_10, yk86_11] yk86_11 = true := by decide +kernel
-- RailwayHouse$Ways.findNeeds: 1393 steps
theorem ye87 : y_runE y_hn0 (ytb yw87) 100000 yc87 [yk87_0, yk87_1, yk87_2, yk87_3, yk87_4, yk87_5, yk87_6, yk87_7, yk87_8, yk87_9, yk87_10, yk87_11, yk87_12, yk87_13] = true := by decide +kernel
theorem yx87_0 : y_runC y_hn0 (ytb yw87) 100000 yc87 [yk87_0, yk87_1, yk87_2, yk87_3, yk87_4, yk87_5, yk87_6, yk87_7, yk87_8, yk87_9, yk87_10, yk87_11, yk87_12, yk87_13] yk87_0 = true := by decide +kernel
theorem yx87_1 : y_runC y_hn0 (ytb yw87) 100000 yc87 [yk87_0, yk87_1, yk87_2, yk87_3, yk87_4, yk87_5, yk87_6, yk87_7, yk87_8, yk87_9, yk87_10, yk87_11, yk87_12, yk87_13] yk87_1 = true := by decide +kernel
theorem yx87_2 : y_runC y_hn0 (ytb yw87) 100000 yc87 [yk87_0, yk87_1, yk87_2, yk87_3, yk87_4, yk87_5, yk87_6, yk87_7, yk87_8, yk87_9, yk87_10, yk87_11, yk87_12, yk87_13] yk87_2 = true := by decide +kernel
theorem yx87_3 : y_runC y_hn0 (ytb yw87) 100000 yc87 [yk87_0, yk87_1, yk87_2, yk87_3, yk87_4, yk87_5, yk87_6, yk87_7, yk87_8, yk87_9, yk87_10, yk87_11, yk87_12, yk87_13] yk87_3 = true := by decide +kernel
theorem yx87_4 : y_runC y_hn0 (ytb yw87) 100000 yc87 [yk87_0, yk87_1, yk87_2, yk87_3, yk87_4, yk87_5, yk87_6, yk87_7, yk87_8, yk87_9, yk87_10, yk87_11, yk87_12, yk87_13] yk87_4 = true := by decide +kernel
theorem yx87_5 : y_runC y_hn0 (ytb yw87) 100000 yc87 [yk87_0, yk87_1, yk87_2, yk87_3, yk87_4, yk87_5, yk87_6, yk87_7, yk87_8, yk87_9, yk87_10, yk87_11, yk87_12, yk87_13] yk87_5 = true := by decide +kernel
theorem yx87_6 : y_runC y_hn0 (ytb yw87) 100000 yc87 [yk87_0, yk87_1, yk87_2, yk87_3, yk87_4, yk87_5, yk87_6, yk87_7, yk87_8, yk87_9, yk87_10, yk87_11, yk87_12, yk87_13] yk87_6 = true := by decide +kernel
theorem yx87_7 : y_runC y_hn0 (ytb yw87) 100000 yc87 [yk87_0, yk87_1, yk87_2, yk87_3, yk87_4, yk87_5, yk87_6, yk87_7, yk87_8, yk87_9, yk87_10, yk87_11, yk87_12, yk87_13] yk87_7 = true := by decide +kernel
theorem yx87_8 : y_runC y_hn0 (ytb yw87) 100000 yc87 [yk87_0, yk87_1, yk87_2, yk87_3, yk87_4, yk87_5, yk87_6, yk87_7, yk87_8, yk87_9, yk87_10, yk87_11, yk87_12, yk87_13] yk87_8 = true := by decide +kernel
theorem yx87_9 : y_runC y_hn0 (ytb yw87) 100000 yc87 [yk87_0, yk87_1, yk87_2, yk87_3, yk87_4, yk87_5, yk87_6, yk87_7, yk87_8, yk87_9, yk87_10, yk87_11, yk87_12, yk87_13] yk87_9 = true := by decide +kernel
theorem yx87_10 : y_runC y_hn0 (ytb yw87) 100000 yc87 [yk87_0, yk87_1, yk87_2, yk87_3, yk87_4, yk87_5, yk87_6, yk87_7, yk87_8, yk87_9, yk87_10, yk87_11, yk87_12, yk87_13] yk87_10 = true := by decide +kernel
theorem yx87_11 : y_runC y_hn0 (ytb yw87) 100000 yc87 [yk87_0, yk87_1, yk87_2, yk87_3, yk87_4, yk87_5, yk87_6, yk87_7, yk87_8, yk87_9, yk87_10, yk87_11, yk87_12, yk87_13] yk87_11 = true := by decide +kernel
theorem yx87_12 : y_runC y_hn0 (ytb yw87) 100000 yc87 [yk87_0, yk87_1, yk87_2, yk87_3, yk87_4, yk87_5, yk87_6, yk87_7, yk87_8, yk87_9, yk87_10, yk87_11, yk87_12, yk87_13] yk87_12 = true := by decide +kernel
theorem yx87_13 : y_runC y_hn0 (ytb yw87) 100000 yc87 [yk87_0, yk87_1, yk87_2, yk87_3, yk87_4, yk87_5, yk87_6, yk87_7, yk87_8, yk87_9, yk87_10, yk87_11, yk87_12, yk87_13] yk87_13 = true := by decide +kernel
-- RailwayHouse$Ways.findNeeds: 1601 steps
theorem ye88 : y_runE y_hn0 (ytb yw88) 100000 yc88 [yk88_0, yk88_1, yk88_2, yk88_3, yk88_4, yk88_5, yk88_6, yk88_7, yk88_8, yk88_9, yk88_10, yk88_11, yk88_12, yk88_13, yk88_14, yk88_15] = true := by decide +kernel
theorem yx88_0 : y_runC y_hn0 (ytb yw88) 100000 yc88 [yk88_0, yk88_1, yk88_2, yk88_3, yk88_4, yk88_5, yk88_6, yk88_7, yk88_8, yk88_9, yk88_10, yk88_11, yk88_12, yk88_13, yk88_14, yk88_15] yk88_0 = true := by decide +kernel
theorem yx88_1 : y_runC y_hn0 (ytb yw88) 100000 yc88 [yk88_0, yk88_1, yk88_2, yk88_3, yk88_4, yk88_5, yk88_6, yk88_7, yk88_8, yk88_9, yk88_10, yk88_11, yk88_12, yk88_13, yk88_14, yk88_15] yk88_1 = true := by decide +kernel
theorem yx88_2 : y_runC y_hn0 (ytb yw88) 100000 yc88 [yk88_0, yk88_1, yk88_2, yk88_3, yk88_4, yk88_5, yk88_6, yk88_7, yk88_8, yk88_9, yk88_10, yk88_11, yk88_12, yk88_13, yk88_14, yk88_15] yk88_2 = true := by decide +kernel
theorem yx88_3 : y_runC y_hn0 (ytb yw88) 100000 yc88 [yk88_0, yk88_1, yk88_2, yk88_3, yk88_4, yk88_5, yk88_6, yk88_7, yk88_8, yk88_9, yk88_10, yk88_11, yk88_12, yk88_13, yk88_14, yk88_15] yk88_3 = true := by decide +kernel
theorem yx88_4 : y_runC y_hn0 (ytb yw88) 100000 yc88 [yk88_0, yk88_1, yk88_2, yk88_3, yk88_4, yk88_5, yk88_6, yk88_7, yk88_8, yk88_9, yk88_10, yk88_11, yk88_12, yk88_13, yk88_14, yk88_15] yk88_4 = true := by decide +kernel
theorem yx88_5 : y_runC y_hn0 (ytb yw88) 100000 yc88 [yk88_0, yk88_1, yk88_2, yk88_3, yk88_4, yk88_5, yk88_6, yk88_7, yk88_8, yk88_9, yk88_10, yk88_11, yk88_12, yk88_13, yk88_14, yk88_15] yk88_5 = true := by decide +kernel
theorem yx88_6 : y_runC y_hn0 (ytb yw88) 100000 yc88 [yk88_0, yk88_1, yk88_2, yk88_3, yk88_4, yk88_5, yk88_6, yk88_7, yk88_8, yk88_9, yk88_10, yk88_11, yk88_12, yk88_13, yk88_14, yk88_15] yk88_6 = true := by decide +kernel
theorem yx88_7 : y_runC y_hn0 (ytb yw88) 100000 yc88 [yk88_0, yk88_1, yk88_2, yk88_3, yk88_4, yk88_5, yk88_6, yk88_7, yk88_8, yk88_9, yk88_10, yk88_11, yk88_12, yk88_13, yk88_14, yk88_15] yk88_7 = true := by decide +kernel
theorem yx88_8 : y_runC y_hn0 (ytb yw88) 100000 yc88 [yk88_0, yk88_1, yk88_2, yk88_3, yk88_4, yk88_5, yk88_6, yk88_7, yk88_8, yk88_9, yk88_10, yk88_11, yk88_12, yk88_13, yk88_14, yk88_15] yk88_8 = true := by decide +kernel
theorem yx88_9 : y_runC y_hn0 (ytb yw88) 100000 yc88 [yk88_0, yk88_1, yk88_2, yk88_3, yk88_4, yk88_5, yk88_6, yk88_7, yk88_8, yk88_9, yk88_10, yk88_11, yk88_12, yk88_13, yk88_14, yk88_15] yk88_9 = true := by decide +kernel
theorem yx88_10 : y_runC y_hn0 (ytb yw88) 100000 yc88 [yk88_0, yk88_1, yk88_2, yk88_3, yk88_4, yk88_5, yk88_6, yk88_7, yk88_8, yk88_9, yk88_10, yk88_11, yk88_12, yk88_13, yk88_14, yk88_15] yk88_10 = true := by decide +kernel
theorem yx88_11 : y_runC y_hn0 (ytb yw88) 100000 yc88 [yk88_0, yk88_1, yk88_2, yk88_3, yk88_4, yk88_5, yk88_6, yk88_7, yk88_8, yk88_9, yk88_10, yk88_11, yk88_12, yk88_13, yk88_14, yk88_15] yk88_11 = true := by decide +kernel
theorem yx88_12 : y_runC y_hn0 (ytb yw88) 100000 yc88 [yk88_0, yk88_1, yk88_2, yk88_3, yk88_4, yk88_5, yk88_6, yk88_7, yk88_8, yk88_9, yk88_10, yk88_11, yk88_12, yk88_13, yk88_14, yk88_15] yk88_12 = true := by decide +kernel
theorem yx88_13 : y_runC y_hn0 (ytb yw88) 100000 yc88 [yk88_0, yk88_1, yk88_2, yk88_3, yk88_4, yk88_5, yk88_6, yk88_7, yk88_8, yk88_9, yk88_10, yk88_11, yk88_12, yk88_13, yk88_14, yk88_15] yk88_13 = true := by decide +kernel
theorem yx88_14 : y_runC y_hn0 (ytb yw88) 100000 yc88 [yk88_0, yk88_1, yk88_2, yk88_3, yk88_4, yk88_5, yk88_6, yk88_7, yk88_8, yk88_9, yk88_10, yk88_11, yk88_12, yk88_13, yk88_14, yk88_15] yk88_14 = true := by decide +kernel
theorem yx88_15 : y_runC y_hn0 (ytb yw88) 100000 yc88 [yk88_0, yk88_1, yk88_2, yk88_3, yk88_4, yk88_5, yk88_6, yk88_7, yk88_8, yk88_9, yk88_10, yk88_11, yk88_12, yk88_13, yk88_14, yk88_15] yk88_15 = true := by decide +kernel
-- RailwayHouse$Ways.findNeeds: 1809 steps
theorem ye89 : y_runE y_hn0 (ytb yw89) 100000 yc89 [yk89_0, yk89_1, yk89_2, yk89_3, yk89_4, yk89_5, yk89_6, yk89_7, yk89_8, yk89_9, yk89_10, yk89_11, yk89_12, yk89_13, yk89_14, yk89_15, yk89_16, yk89_17] = true := by decide +kernel
theorem yx89_0 : y_runC y_hn0 (ytb yw89) 100000 yc89 [yk89_0, yk89_1, yk89_2, yk89_3, yk89_4, yk89_5, yk89_6, yk89_7, yk89_8, yk89_9, yk89_10, yk89_11, yk89_12, yk89_13, yk89_14, yk89_15, yk89_16, yk89_17] yk89_0 = true := by decide +kernel
theorem yx89_1 : y_runC y_hn0 (ytb yw89) 100000 yc89 [yk89_0, yk89_1, yk89_2, yk89_3, yk89_4, yk89_5, yk89_6, yk89_7, yk89_8, yk89_9, yk89_10, yk89_11, yk89_12, yk89_13, yk89_14, yk89_15, yk89_16, yk89_17] yk89_1 = true := by decide +kernel
theorem yx89_2 : y_runC y_hn0 (ytb yw89) 100000 yc89 [yk89_0, yk89_1, yk89_2, yk89_3, yk89_4, yk89_5, yk89_6, yk89_7, yk89_8, yk89_9, yk89_10, yk89_11, yk89_12, yk89_13, yk89_14, yk89_15, yk89_16, yk89_17] yk89_2 = true := by decide +kernel
theorem yx89_3 : y_runC y_hn0 (ytb yw89) 100000 yc89 [yk89_0, yk89_1, yk89_2, yk89_3, yk89_4, yk89_5, yk89_6, yk89_7, yk89_8, yk89_9, yk89_10, yk89_11, yk89_12, yk89_13, yk89_14, yk89_15, yk89_16, yk89_17] yk89_3 = true := by decide +kernel
theorem yx89_4 : y_runC y_hn0 (ytb yw89) 100000 yc89 [yk89_0, yk89_1, yk89_2, yk89_3, yk89_4, yk89_5, yk89_6, yk89_7, yk89_8, yk89_9, yk89_10, yk89_11, yk89_12, yk89_13, yk89_14, yk89_15, yk89_16, yk89_17] yk89_4 = true := by decide +kernel
theorem yx89_5 : y_runC y_hn0 (ytb yw89) 100000 yc89 [yk89_0, yk89_1, yk89_2, yk89_3, yk89_4, yk89_5, yk89_6, yk89_7, yk89_8, yk89_9, yk89_10, yk89_11, yk89_12, yk89_13, yk89_14, yk89_15, yk89_16, yk89_17] yk89_5 = true := by decide +kernel
theorem yx89_6 : y_runC y_hn0 (ytb yw89) 100000 yc89 [yk89_0, yk89_1, yk89_2, yk89_3, yk89_4, yk89_5, yk89_6, yk89_7, yk89_8, yk89_9, yk89_10, yk89_11, yk89_12, yk89_13, yk89_14, yk89_15, yk89_16, yk89_17] yk89_6 = true := by decide +kernel
theorem yx89_7 : y_runC y_hn0 (ytb yw89) 100000 yc89 [yk89_0, yk89_1, yk89_2, yk89_3, yk89_4, yk89_5, yk89_6, yk89_7, yk89_8, yk89_9, yk89_10, yk89_11, yk89_12, yk89_13, yk89_14, yk89_15, yk89_16, yk89_17] yk89_7 = true := by decide +kernel
theorem yx89_8 : y_runC y_hn0 (ytb yw89) 100000 yc89 [yk89_0, yk89_1, yk89_2, yk89_3, yk89_4, yk89_5, yk89_6, yk89_7, yk89_8, yk89_9, yk89_10, yk89_11, yk89_12, yk89_13, yk89_14, yk89_15, yk89_16, yk89_17] yk89_8 = true := by decide +kernel
theorem yx89_9 : y_runC y_hn0 (ytb yw89) 100000 yc89 [yk89_0, yk89_1, yk89_2, yk89_3, yk89_4, yk89_5, yk89_6, yk89_7, yk89_8, yk89_9, yk89_10, yk89_11, yk89_12, yk89_13, yk89_14, yk89_15, yk89_16, yk89_17] yk89_9 = true := by decide +kernel
theorem yx89_10 : y_runC y_hn0 (ytb yw89) 100000 yc89 [yk89_0, yk89_1, yk89_2, yk89_3, yk89_4, yk89_5, yk89_6, yk89_7, yk89_8, yk89_9, yk89_10, yk89_11, yk89_12, yk89_13, yk89_14, yk89_15, yk89_16, yk89_17] yk89_10 = true := by decide +kernel
theorem yx89_11 : y_runC y_hn0 (ytb yw89) 100000 yc89 [yk89_0, yk89_1, yk89_2, yk89_3, yk89_4, yk89_5, yk89_6, yk89_7, yk89_8, yk89_9, yk89_10, yk89_11, yk89_12, yk89_13, yk89_14, yk89_15, yk89_16, yk89_17] yk89_11 = true := by decide +kernel
theorem yx89_12 : y_runC y_hn0 (ytb yw89) 100000 yc89 [yk89_0, yk89_1, yk89_2, yk89_3, yk89_4, yk89_5, yk89_6, yk89_7, yk89_8, yk89_9, yk89_10, yk89_11, yk89_12, yk89_13, yk89_14, yk89_15, yk89_16, yk89_17] yk89_12 = true := by decide +kernel
theorem yx89_13 : y_runC y_hn0 (ytb yw89) 100000 yc89 [yk89_0, yk89_1, yk89_2, yk89_3, yk89_4, yk89_5, yk89_6, yk89_7, yk89_8, yk89_9, yk89_10, yk89_11, yk89_12, yk89_13, yk89_14, yk89_15, yk89_16, yk89_17] yk89_13 = true := by decide +kernel
theorem yx89_14 : y_runC y_hn0 (ytb yw89) 100000 yc89 [yk89_0, yk89_1, yk89_2, yk89_3, yk89_4, yk89_5, yk89_6, yk89_7, yk89_8, yk89_9, yk89_10, yk89_11, yk89_12, yk89_13, yk89_14, yk89_15, yk89_16, yk89_17] yk89_14 = true := by decide +kernel
theorem yx89_15 : y_runC y_hn0 (ytb yw89) 100000 yc89 [yk89_0, yk89_1, yk89_2, yk89_3, yk89_4, yk89_5, yk89_6, yk89_7, yk89_8, yk89_9, yk89_10, yk89_11, yk89_12, yk89_13, yk89_14, yk89_15, yk89_16, yk89_17] yk89_15 = true := by decide +kernel
theorem yx89_16 : y_runC y_hn0 (ytb yw89) 100000 yc89 [yk89_0, yk89_1, yk89_2, yk89_3, yk89_4, yk89_5, yk89_6, yk89_7, yk89_8, yk89_9, yk89_10, yk89_11, yk89_12, yk89_13, yk89_14, yk89_15, yk89_16, yk89_17] yk89_16 = true := by decide +kernel
theorem yx89_17 : y_runC y_hn0 (ytb yw89) 100000 yc89 [yk89_0, yk89_1, yk89_2, yk89_3, yk89_4, yk89_5, yk89_6, yk89_7, yk89_8, yk89_9, yk89_10, yk89_11, yk89_12, yk89_13, yk89_14, yk89_15, yk89_16, yk89_17] yk89_17 = true := by decide +kernel
-- RailwayHouse$Ways.finish: 411 steps
theorem ye90 : y_runE y_hn0 (ytb yw90) 100000 yc90 [yk90_0] = true := by decide +kernel
theorem yx90_0 : y_runC y_hn0 (ytb yw90) 100000 yc90 [yk90_0] yk90_0 = true := by decide +kernel
-- RailwayHouse$Ways.finish: 411 steps
theorem ye91 : y_runE y_hn0 (ytb yw91) 100000 yc91 [yk91_0] = true := by decide +kernel
theorem yx91_0 : y_runC y_hn0 (ytb yw91) 100000 yc91 [yk91_0] yk91_0 = true := by decide +kernel
-- RailwayHouse$Ways.finish: 411 steps
theorem ye92 : y_runE y_hn0 (ytb yw92) 100000 yc92 [yk92_0] = true := by decide +kernel
theorem yx92_0 : y_runC y_hn0 (ytb yw92) 100000 yc92 [yk92_0] yk92_0 = true := by decide +kernel
-- RailwayHouse$Ways.finish: 411 steps
theorem ye93 : y_runE y_hn0 (ytb yw93) 100000 yc93 [yk93_0] = true := by decide +kernel
theorem yx93_0 : y_runC y_hn0 (ytb yw93) 100000 yc93 [yk93_0] yk93_0 = true := by decide +kernel
-- RailwayHouse$Ways.finish: 411 steps
theorem ye94 : y_runE y_hn0 (ytb yw94) 100000 yc94 [yk94_0] = true := by decide +kernel
theorem yx94_0 : y_runC y_hn0 (ytb yw94) 100000 yc94 [yk94_0] yk94_0 = true := by decide +kernel
-- RailwayHouse$Ways.finish: 411 steps
theorem ye95 : y_runE y_hn0 (ytb yw95) 100000 yc95 [yk95_0] = true := by decide +kernel
theorem yx95_0 : y_runC y_hn0 (ytb yw95) 100000 yc95 [yk95_0] yk95_0 = true := by decide +kernel
-- RailwayHouse$Ways.finish: 411 steps
theorem ye96 : y_runE y_hn0 (ytb yw96) 100000 yc96 [yk96_0] = true := by decide +kernel
theorem yx96_0 : y_runC y_hn0 (ytb yw96) 100000 yc96 [yk96_0] yk96_0 = true := by decide +kernel
-- RailwayHouse$Ways.finish: 411 steps
theorem ye97 : y_runE y_hn0 (ytb yw97) 100000 yc97 [yk97_0] = true := by decide +kernel
theorem yx97_0 : y_runC y_hn0 (ytb yw97) 100000 yc97 [yk97_0] yk97_0 = true := by decide +kernel
-- RailwayHouse$Ways.isInWay: 39 steps
theorem ye98 : y_runE y_hn0 (ytb yw98) 100000 yc98 [yk98_0] = true := by decide +kernel
theorem yx98_0 : y_runC y_hn0 (ytb yw98) 100000 yc98 [yk98_0] yk98_0 = true := by decide +kernel
-- RailwayHouse$Ways.keepHeld: 209 steps
theorem ye99 : y_runE y_hn0 (ytb yw99) 100000 yc99 [yk99_0] = true := by decide +kernel
theorem yx99_0 : y_runC y_hn0 (ytb yw99) 100000 yc99 [yk99_0] yk99_0 = true := by decide +kernel
-- RailwayHouse$Ways.keepNeeds: 52 steps
theorem ye100 : y_runE y_hn0 (ytb yw100) 100000 yc100 [yk100_0] = true := by decide +kernel
theorem yx100_0 : y_runC y_hn0 (ytb yw100) 100000 yc100 [yk100_0] yk100_0 = true := by decide +kernel
-- RailwayHouse$Ways.lieOnWay: 1920 steps
theorem ye101 : y_runE y_hn0 (ytb yw101) 100000 yc101 [] = true := by decide +kernel
