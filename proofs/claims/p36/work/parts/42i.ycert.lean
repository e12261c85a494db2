-- RailwayHouseModel.findJourneys: 179 steps
theorem ye138 : y_runE y_hn0 (ytb yw138) 100000 yc138 [yk138_0, yk138_1, yk138_2, yk138_3] = true := by decide +kernel
theorem yx138_0 : y_runC y_hn0 (ytb yw138) 100000 yc138 [yk138_0, yk138_1, yk138_2, yk138_3] yk138_0 = true := by decide +kernel
theorem yx138_1 : y_runC y_hn0 (ytb yw138) 100000 yc138 [yk138_0, yk138_1, yk138_2, yk138_3] yk138_1 = true := by decide +kernel
theorem yx138_2 : y_runC y_hn0 (ytb yw138) 100000 yc138 [yk138_0, yk138_1, yk138_2, yk138_3] yk138_2 = true := by decide +kernel
theorem yx138_3 : y_runC y_hn0 (ytb yw138) 100000 yc138 [yk138_0, yk138_1, yk138_2, yk138_3] yk138_3 = true := by decide +kernel
-- RailwayHouseModel.force: 156 steps
theorem ye139 : y_runE y_hn0 (ytb yw139) 100000 yc139 [] = true := by decide +kernel
-- RailwayHouseModel.freshChannel: 225 steps
theorem ye140 : y_runE y_hn0 (ytb yw140) 100000 yc140 [yk140_0] = true := by decide +kernel
theorem yx140_0 : y_runC y_hn0 (ytb yw140) 100000 yc140 [yk140_0] yk140_0 = true := by decide +kernel
-- RailwayHouseModel.freshChannels: 71 steps
theorem ye141 : y_runE y_hn0 (ytb yw141) 100000 yc141 [yk141_0, yk141_1] = true := by decide +kernel
theorem yx141_0 : y_runC y_hn0 (ytb yw141) 100000 yc141 [yk141_0, yk141_1] yk141_0 = true := by decide +kernel
theorem yx141_1 : y_runC y_hn0 (ytb yw141) 100000 yc141 [yk141_0, yk141_1] yk141_1 = true := by decide +kernel
-- RailwayHouseModel.give: 42 steps
theorem ye142 : y_runE y_hn0 (ytb yw142) 100000 yc142 [] = true := by decide +kernel
-- RailwayHouseModel.goBehind: 240 steps
theorem ye143 : y_runE y_hn0 (ytb yw143) 100000 yc143 [yk143_0, yk143_1] = true := by decide +kernel
theorem yx143_0 : y_runC y_hn0 (ytb yw143) 100000 yc143 [yk143_0, yk143_1] yk143_0 = true := by decide +kernel
theorem yx143_1 : y_runC y_hn0 (ytb yw143) 100000 yc143 [yk143_0, yk143_1] yk143_1 = true := by decide +kernel
-- RailwayHouseModel.goDown: 33 steps
theorem ye144 : y_runE y_hn0 (ytb yw144) 100000 yc144 [yk144_0] = true := by decide +kernel
theorem yx144_0 : y_runC y_hn0 (ytb yw144) 100000 yc144 [yk144_0] yk144_0 = true := by decide +kernel
-- RailwayHouseModel.goFrom: 205 steps
theorem ye145 : y_runE y_hn0 (ytb yw145) 100000 yc145 [yk145_0] = true := by decide +kernel
theorem yx145_0 : y_runC y_hn0 (ytb yw145) 100000 yc145 [yk145_0] yk145_0 = true := by decide +kernel
-- RailwayHouseModel.hasSection: 79 steps
theorem ye146 : y_runE y_hn0 (ytb yw146) 100000 yc146 [yk146_0] = true := by decide +kernel
theorem yx146_0 : y_runC y_hn0 (ytb yw146) 100000 yc146 [yk146_0] yk146_0 = true := by decide +kernel
-- RailwayHouseModel.hold: 517 steps
theorem ye147 : y_runE y_hn0 (ytb yw147) 100000 yc147 [yk147_0] = true := by decide +kernel
theorem yx147_0 : y_runC y_hn0 (ytb yw147) 100000 yc147 [yk147_0] yk147_0 = true := by decide +kernel
-- RailwayHouseModel.holdAt: 55 steps
theorem ye148 : y_runE y_hn0 (ytb yw148) 100000 yc148 [] = true := by decide +kernel
-- RailwayHouseModel.holder: 722 steps
theorem ye149 : y_runE y_hn0 (ytb yw149) 100000 yc149 [yk149_0] = true := by decide +kernel
theorem yx149_0 : y_runC y_hn0 (ytb yw149) 100000 yc149 [yk149_0] yk149_0 = true := by decide +kernel
-- RailwayHouseModel.holdsAsSection: 103 steps
theorem ye150 : y_runE y_hn0 (ytb yw150) 100000 yc150 [yk150_0] = true := by decide +kernel
theorem yx150_0 : y_runC y_hn0 (ytb yw150) 100000 yc150 [yk150_0] yk150_0 = true := by decide +kernel
-- RailwayHouseModel.holdsAt: 48 steps
theorem ye151 : y_runE y_hn0 (ytb yw151) 100000 yc151 [] = true := by decide +kernel
-- RailwayHouseModel.holdsOverlap: 41 steps
theorem ye152 : y_runE y_hn0 (ytb yw152) 100000 yc152 [] = true := by decide +kernel
-- RailwayHouseModel.holdsThere: 57 steps
theorem ye153 : y_runE y_hn0 (ytb yw153) 100000 yc153 [yk153_0] = true := by decide +kernel
theorem yx153_0 : y_runC y_hn0 (ytb yw153) 100000 yc153 [yk153_0] yk153_0 = true := by decide +kernel
-- RailwayHouseModel.interpose: 77 steps
theorem ye154 : y_runE y_hn0 (ytb yw154) 100000 yc154 [] = true := by decide +kernel
-- RailwayHouseModel.isBadClear: 215 steps
theorem ye155 : y_runE y_hn0 (ytb yw155) 100000 yc155 [yk155_0] = true := by decide +kernel
theorem yx155_0 : y_runC y_hn0 (ytb yw155) 100000 yc155 [yk155_0] yk155_0 = true := by decide +kernel
-- RailwayHouseModel.isBeaten: 1359 steps
theorem ye156 : y_runE y_hn0 (ytb yw156) 100000 yc156 [yk156_0, yk156_1] = true := by decide +kernel
theorem yx156_0 : y_runC y_hn0 (ytb yw156) 100000 yc156 [yk156_0, yk156_1] yk156_0 = true := by decide +kernel
theorem yx156_1 : y_runC y_hn0 (ytb yw156) 100000 yc156 [yk156_0, yk156_1] yk156_1 = true := by decide +kernel
-- RailwayHouseModel.isBound: 287 steps
theorem ye157 : y_runE y_hn0 (ytb yw157) 100000 yc157 [yk157_0, yk157_1] = true := by decide +kernel
theorem yx157_0 : y_runC y_hn0 (ytb yw157) 100000 yc157 [yk157_0, yk157_1] yk157_0 = true := by decide +kernel
theorem yx157_1 : y_runC y_hn0 (ytb yw157) 100000 yc157 [yk157_0, yk157_1] yk157_1 = true := by decide +kernel
-- RailwayHouseModel.isHeld: 245 steps
theorem ye158 : y_runE y_hn0 (ytb yw158) 100000 yc158 [yk158_0] = true := by decide +kernel
theorem yx158_0 : y_runC y_hn0 (ytb yw158) 100000 yc158 [yk158_0] yk158_0 = true := by decide +kernel
-- RailwayHouseModel.isHeldAgainst: 141 steps
theorem ye159 : y_runE y_hn0 (ytb yw159) 100000 yc159 [yk159_0] = true := by decide +kernel
theorem yx159_0 : y_runC y_hn0 (ytb yw159) 100000 yc159 [yk159_0] yk159_0 = true := by decide +kernel
-- RailwayHouseModel.isHeldAsSection: 95 steps
theorem ye160 : y_runE y_hn0 (ytb yw160) 100000 yc160 [yk160_0] = true := by decide +kernel
theorem yx160_0 : y_runC y_hn0 (ytb yw160) 100000 yc160 [yk160_0] yk160_0 = true := by decide +kernel
-- RailwayHouseModel.isInWay: 17 steps
theorem ye161 : y_runE y_hn0 (ytb yw161) 100000 yc161 [yk161_0] = true := by decide +kernel
theorem yx161_0 : y_runC y_hn0 (ytb yw161) 100000 yc161 [yk161_0] yk161_0 = true := by decide +kernel
-- RailwayHouseModel.isTaken: 155 steps
theorem ye162 : y_runE y_hn0 (ytb yw162) 100000 yc162 [yk162_0] = true := by decide +kernel
theorem yx162_0 : y_runC y_hn0 (ytb yw162) 100000 yc162 [yk162_0] yk162_0 = true := by decide +kernel
-- RailwayHouseModel.leg: 120 steps
theorem ye163 : y_runE y_hn0 (ytb yw163) 100000 yc163 [] = true := by decide +kernel
-- RailwayHouseModel.lie: 74 steps
theorem ye164 : y_runE y_hn0 (ytb yw164) 100000 yc164 [] = true := by decide +kernel
-- RailwayHouseModel.liesNow: 83 steps
theorem ye165 : y_runE y_hn0 (ytb yw165) 100000 yc165 [yk165_0] = true := by decide +kernel
theorem yx165_0 : y_runC y_hn0 (ytb yw165) 100000 yc165 [yk165_0] yk165_0 = true := by decide +kernel
-- RailwayHouseModel.line: 167 steps
theorem ye166 : y_runE y_hn0 (ytb yw166) 100000 yc166 [] = true := by decide +kernel
-- RailwayHouseModel.manyOn: 194 steps
theorem ye167 : y_runE y_hn0 (ytb yw167) 100000 yc167 [yk167_0] = true := by decide +kernel
theorem yx167_0 : y_runC y_hn0 (ytb yw167) 100000 yc167 [yk167_0] yk167_0 = true := by decide +kernel
