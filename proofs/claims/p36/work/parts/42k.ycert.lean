-- RailwayHouseModel.cancel: 49 steps
theorem ye180 : y_runE y_hn0 (ytb yw180) 100000 yc180 [] = true := by decide +kernel
-- RailwayHouseModel.cancelIn: 91 steps
theorem ye181 : y_runE y_hn0 (ytb yw181) 100000 yc181 [] = true := by decide +kernel
-- RailwayHouseModel.channel: 48 steps
theorem ye182 : y_runE y_hn0 (ytb yw182) 100000 yc182 [] = true := by decide +kernel
-- RailwayHouseModel.clear: 7 steps
theorem ye183 : y_runE y_hn0 (ytb yw183) 100000 yc183 [] = true := by decide +kernel
-- RailwayHouseModel.clearLine: 8 steps
theorem ye184 : y_runE y_hn0 (ytb yw184) 100000 yc184 [] = true := by decide +kernel
-- RailwayHouseModel.conflict: 2854 steps
theorem ye185 : y_runE y_hn0 (ytb yw185) 100000 yc185 [] = true := by decide +kernel
-- RailwayHouseModel.copyChannel: 265 steps
theorem ye186 : y_runE y_hn0 (ytb yw186) 100000 yc186 [yk186_0] = true := by decide +kernel
theorem yx186_0 : y_runC y_hn0 (ytb yw186) 100000 yc186 [yk186_0] yk186_0 = true := by decide +kernel
-- RailwayHouseModel.costOf: 967 steps
theorem ye187 : y_runE y_hn0 (ytb yw187) 100000 yc187 [yk187_0] = true := by decide +kernel
theorem yx187_0 : y_runC y_hn0 (ytb yw187) 100000 yc187 [yk187_0] yk187_0 = true := by decide +kernel
-- RailwayHouseModel.count: 61 steps
theorem ye188 : y_runE y_hn0 (ytb yw188) 100000 yc188 [] = true := by decide +kernel
-- RailwayHouseModel.cut: 13 steps
theorem ye189 : y_runE y_hn0 (ytb yw189) 100000 yc189 [] = true := by decide +kernel
-- RailwayHouseModel.cycle: 237 steps
theorem ye190 : y_runE y_hn0 (ytb yw190) 100000 yc190 [yk190_0, yk190_1] = true := by decide +kernel
theorem yx190_0 : y_runC y_hn0 (ytb yw190) 100000 yc190 [yk190_0, yk190_1] yk190_0 = true := by decide +kernel
theorem yx190_1 : y_runC y_hn0 (ytb yw190) 100000 yc190 [yk190_0, yk190_1] yk190_1 = true := by decide +kernel
-- RailwayHouseModel.cycleOf: 1234 steps
theorem ye191 : y_runE y_hn0 (ytb yw191) 100000 yc191 [] = true := by decide +kernel
-- RailwayHouseModel.cyclesAndVote: 491 steps
theorem ye192 : y_runE y_hn0 (ytb yw192) 100000 yc192 [yk192_0, yk192_1] = true := by decide +kernel
theorem yx192_0 : y_runC y_hn0 (ytb yw192) 100000 yc192 [yk192_0, yk192_1] yk192_0 = true := by decide +kernel
theorem yx192_1 : y_runC y_hn0 (ytb yw192) 100000 yc192 [yk192_0, yk192_1] yk192_1 = true := by decide +kernel
-- RailwayHouseModel.end: 30 steps
theorem ye193 : y_runE y_hn0 (ytb yw193) 100000 yc193 [] = true := by decide +kernel
-- RailwayHouseModel.fault: 60 steps
theorem ye194 : y_runE y_hn0 (ytb yw194) 100000 yc194 [] = true := by decide +kernel
-- RailwayHouseModel.feed: 760 steps
theorem ye195 : y_runE y_hn0 (ytb yw195) 100000 yc195 [] = true := by decide +kernel
-- RailwayHouseModel.findJourneys: 179 steps
theorem ye196 : y_runE y_hn0 (ytb yw196) 100000 yc196 [yk196_0, yk196_1, yk196_2, yk196_3] = true := by decide +kernel
theorem yx196_0 : y_runC y_hn0 (ytb yw196) 100000 yc196 [yk196_0, yk196_1, yk196_2, yk196_3] yk196_0 = true := by decide +kernel
theorem yx196_1 : y_runC y_hn0 (ytb yw196) 100000 yc196 [yk196_0, yk196_1, yk196_2, yk196_3] yk196_1 = true := by decide +kernel
theorem yx196_2 : y_runC y_hn0 (ytb yw196) 100000 yc196 [yk196_0, yk196_1, yk196_2, yk196_3] yk196_2 = true := by decide +kernel
theorem yx196_3 : y_runC y_hn0 (ytb yw196) 100000 yc196 [yk196_0, yk196_1, yk196_2, yk196_3] yk196_3 = true := by decide +kernel
-- RailwayHouseModel.force: 156 steps
theorem ye197 : y_runE y_hn0 (ytb yw197) 100000 yc197 [] = true := by decide +kernel
-- RailwayHouseModel.freeTo: 40 steps
theorem ye198 : y_runE y_hn0 (ytb yw198) 100000 yc198 [] = true := by decide +kernel
-- RailwayHouseModel.freshChannel: 225 steps
theorem ye199 : y_runE y_hn0 (ytb yw199) 100000 yc199 [yk199_0] = true := by decide +kernel
theorem yx199_0 : y_runC y_hn0 (ytb yw199) 100000 yc199 [yk199_0] yk199_0 = true := by decide +kernel
-- RailwayHouseModel.freshChannels: 71 steps
theorem ye200 : y_runE y_hn0 (ytb yw200) 100000 yc200 [yk200_0, yk200_1] = true := by decide +kernel
theorem yx200_0 : y_runC y_hn0 (ytb yw200) 100000 yc200 [yk200_0, yk200_1] yk200_0 = true := by decide +kernel
theorem yx200_1 : y_runC y_hn0 (ytb yw200) 100000 yc200 [yk200_0, yk200_1] yk200_1 = true := by decide +kernel
-- RailwayHouseModel.give: 42 steps
theorem ye201 : y_runE y_hn0 (ytb yw201) 100000 yc201 [] = true := by decide +kernel
-- RailwayHouseModel.goBehind: 240 steps
theorem ye202 : y_runE y_hn0 (ytb yw202) 100000 yc202 [yk202_0, yk202_1] = true := by decide +kernel
theorem yx202_0 : y_runC y_hn0 (ytb yw202) 100000 yc202 [yk202_0, yk202_1] yk202_0 = true := by decide +kernel
theorem yx202_1 : y_runC y_hn0 (ytb yw202) 100000 yc202 [yk202_0, yk202_1] yk202_1 = true := by decide +kernel
-- RailwayHouseModel.goDown: 33 steps
theorem ye203 : y_runE y_hn0 (ytb yw203) 100000 yc203 [yk203_0] = true := by decide +kernel
theorem yx203_0 : y_runC y_hn0 (ytb yw203) 100000 yc203 [yk203_0] yk203_0 = true := by decide +kernel
-- RailwayHouseModel.goFrom: 205 steps
theorem ye204 : y_runE y_hn0 (ytb yw204) 100000 yc204 [yk204_0] = true := by decide +kernel
theorem yx204_0 : y_runC y_hn0 (ytb yw204) 100000 yc204 [yk204_0] yk204_0 = true := by decide +kernel
-- RailwayHouseModel.hasSection: 79 steps
theorem ye205 : y_runE y_hn0 (ytb yw205) 100000 yc205 [yk205_0] = true := by decide +kernel
theorem yx205_0 : y_runC y_hn0 (ytb yw205) 100000 yc205 [yk205_0] yk205_0 = true := by decide +kernel
-- RailwayHouseModel.hold: 517 steps
theorem ye206 : y_runE y_hn0 (ytb yw206) 100000 yc206 [yk206_0] = true := by decide +kernel
theorem yx206_0 : y_runC y_hn0 (ytb yw206) 100000 yc206 [yk206_0] yk206_0 = true := by decide +kernel
-- RailwayHouseModel.holdAt: 55 steps
theorem ye207 : y_runE y_hn0 (ytb yw207) 100000 yc207 [] = true := by decide +kernel
-- RailwayHouseModel.holder: 722 steps
theorem ye208 : y_runE y_hn0 (ytb yw208) 100000 yc208 [yk208_0] = true := by decide +kernel
theorem yx208_0 : y_runC y_hn0 (ytb yw208) 100000 yc208 [yk208_0] yk208_0 = true := by decide +kernel
-- RailwayHouseModel.holdsAsSection: 103 steps
theorem ye209 : y_runE y_hn0 (ytb yw209) 100000 yc209 [yk209_0] = true := by decide +kernel
theorem yx209_0 : y_runC y_hn0 (ytb yw209) 100000 yc209 [yk209_0] yk209_0 = true := by decide +kernel
-- RailwayHouseModel.holdsAt: 48 steps
theorem ye210 : y_runE y_hn0 (ytb yw210) 100000 yc210 [] = true := by decide +kernel
-- RailwayHouseModel.holdsOverlap: 41 steps
theorem ye211 : y_runE y_hn0 (ytb yw211) 100000 yc211 [] = true := by decide +kernel
-- RailwayHouseModel.holdsThere: 57 steps
theorem ye212 : y_runE y_hn0 (ytb yw212) 100000 yc212 [yk212_0] = true := by decide +kernel
theorem yx212_0 : y_runC y_hn0 (ytb yw212) 100000 yc212 [yk212_0] yk212_0 = true := by decide +kernel
-- RailwayHouseModel.interpose: 77 steps
theorem ye213 : y_runE y_hn0 (ytb yw213) 100000 yc213 [] = true := by decide +kernel
-- RailwayHouseModel.isBadClear: 215 steps
theorem ye214 : y_runE y_hn0 (ytb yw214) 100000 yc214 [yk214_0] = true := by decide +kernel
theorem yx214_0 : y_runC y_hn0 (ytb yw214) 100000 yc214 [yk214_0] yk214_0 = true := by decide +kernel
-- RailwayHouseModel.isBeaten: 1359 steps
theorem ye215 : y_runE y_hn0 (ytb yw215) 100000 yc215 [yk215_0, yk215_1] = true := by decide +kernel
theorem yx215_0 : y_runC y_hn0 (ytb yw215) 100000 yc215 [yk215_0, yk215_1] yk215_0 = true := by decide +kernel
theorem yx215_1 : y_runC y_hn0 (ytb yw215) 100000 yc215 [yk215_0, yk215_1] yk215_1 = true := by decide +kernel
-- RailwayHouseModel.isBound: 287 steps
theorem ye216 : y_runE y_hn0 (ytb yw216) 100000 yc216 [yk216_0, yk216_1] = true := by decide +kernel
theorem yx216_0 : y_runC y_hn0 (ytb yw216) 100000 yc216 [yk216_0, yk216_1] yk216_0 = true := by decide +kernel
theorem yx216_1 : y_runC y_hn0 (ytb yw216) 100000 yc216 [yk216_0, yk216_1] yk216_1 = true := by decide +kernel
-- RailwayHouseModel.isHeld: 245 steps
theorem ye217 : y_runE y_hn0 (ytb yw217) 100000 yc217 [yk217_0] = true := by decide +kernel
theorem yx217_0 : y_runC y_hn0 (ytb yw217) 100000 yc217 [yk217_0] yk217_0 = true := by decide +kernel
