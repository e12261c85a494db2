-- RailwayHouse.option: 56 steps
theorem ye144 : y_runE y_hn0 (ytb yw144) 100000 yc144 [] = true := by decide +kernel
-- RailwayHouse.pay: 40 steps
theorem ye145 : y_runE y_hn0 (ytb yw145) 100000 yc145 [] = true := by decide +kernel
-- RailwayHouse.place: 4 steps
theorem ye146 : y_runE y_hn0 (ytb yw146) 100000 yc146 [] = true := by decide +kernel
-- RailwayHouse.putNumber: 45 steps
theorem ye147 : y_runE y_hn0 (ytb yw147) 100000 yc147 [] = true := by decide +kernel
-- RailwayHouse.release: 32 steps
theorem ye148 : y_runE y_hn0 (ytb yw148) 100000 yc148 [] = true := by decide +kernel
-- RailwayHouse.reset: 57 steps
theorem ye149 : y_runE y_hn0 (ytb yw149) 100000 yc149 [] = true := by decide +kernel
-- RailwayHouse.route: 60 steps
theorem ye150 : y_runE y_hn0 (ytb yw150) 100000 yc150 [] = true := by decide +kernel
-- RailwayHouse.routeAt: 74 steps
theorem ye151 : y_runE y_hn0 (ytb yw151) 100000 yc151 [] = true := by decide +kernel
-- RailwayHouse.routeNeed: 49 steps
theorem ye152 : y_runE y_hn0 (ytb yw152) 100000 yc152 [] = true := by decide +kernel
-- RailwayHouse.routeSection: 49 steps
theorem ye153 : y_runE y_hn0 (ytb yw153) 100000 yc153 [] = true := by decide +kernel
-- RailwayHouse.run: 60 steps
theorem ye154 : y_runE y_hn0 (ytb yw154) 100000 yc154 [] = true := by decide +kernel
-- RailwayHouse.section: 39 steps
theorem ye155 : y_runE y_hn0 (ytb yw155) 100000 yc155 [] = true := by decide +kernel
-- RailwayHouse.set: 32 steps
theorem ye156 : y_runE y_hn0 (ytb yw156) 100000 yc156 [] = true := by decide +kernel
-- RailwayHouse.signal: 63 steps
theorem ye157 : y_runE y_hn0 (ytb yw157) 100000 yc157 [] = true := by decide +kernel
-- RailwayHouse.stand: 58 steps
theorem ye158 : y_runE y_hn0 (ytb yw158) 100000 yc158 [] = true := by decide +kernel
-- RailwayHouse.start: 16 steps
theorem ye159 : y_runE y_hn0 (ytb yw159) 100000 yc159 [] = true := by decide +kernel
-- RailwayHouse.station: 83 steps
theorem ye160 : y_runE y_hn0 (ytb yw160) 100000 yc160 [] = true := by decide +kernel
-- RailwayHouse.stepBerths: 340 steps
theorem ye161 : y_runE y_hn0 (ytb yw161) 100000 yc161 [yk161_0] = true := by decide +kernel
theorem yx161_0 : y_runC y_hn0 (ytb yw161) 100000 yc161 [yk161_0] yk161_0 = true := by decide +kernel
-- RailwayHouse.stepNumber: 61 steps
theorem ye162 : y_runE y_hn0 (ytb yw162) 100000 yc162 [] = true := by decide +kernel
-- RailwayHouse.stopAt: 230 steps
theorem ye163 : y_runE y_hn0 (ytb yw163) 100000 yc163 [] = true := by decide +kernel
-- RailwayHouse.sync: 16 steps
theorem ye164 : y_runE y_hn0 (ytb yw164) 100000 yc164 [] = true := by decide +kernel
-- RailwayHouse.trainOn: 30 steps
theorem ye165 : y_runE y_hn0 (ytb yw165) 100000 yc165 [] = true := by decide +kernel
-- RailwayHouse.turn: 52 steps
theorem ye166 : y_runE y_hn0 (ytb yw166) 100000 yc166 [] = true := by decide +kernel
-- RailwayHouse.used: 146 steps
theorem ye167 : y_runE y_hn0 (ytb yw167) 100000 yc167 [] = true := by decide +kernel
-- RailwayHouseModel.addOption: 554 steps
theorem ye168 : y_runE y_hn0 (ytb yw168) 100000 yc168 [yk168_0] = true := by decide +kernel
theorem yx168_0 : y_runC y_hn0 (ytb yw168) 100000 yc168 [yk168_0] yk168_0 = true := by decide +kernel
-- RailwayHouseModel.allFree: 110 steps
theorem ye169 : y_runE y_hn0 (ytb yw169) 100000 yc169 [yk169_0] = true := by decide +kernel
theorem yx169_0 : y_runC y_hn0 (ytb yw169) 100000 yc169 [yk169_0] yk169_0 = true := by decide +kernel
-- RailwayHouseModel.allLie: 219 steps
theorem ye170 : y_runE y_hn0 (ytb yw170) 100000 yc170 [yk170_0] = true := by decide +kernel
theorem yx170_0 : y_runC y_hn0 (ytb yw170) 100000 yc170 [yk170_0] yk170_0 = true := by decide +kernel
-- RailwayHouseModel.anyMoves: 105 steps
theorem ye171 : y_runE y_hn0 (ytb yw171) 100000 yc171 [yk171_0] = true := by decide +kernel
theorem yx171_0 : y_runC y_hn0 (ytb yw171) 100000 yc171 [yk171_0] yk171_0 = true := by decide +kernel
-- RailwayHouseModel.anyTorn: 627 steps
theorem ye172 : y_runE y_hn0 (ytb yw172) 100000 yc172 [yk172_0, yk172_1] = true := by decide +kernel
theorem yx172_0 : y_runC y_hn0 (ytb yw172) 100000 yc172 [yk172_0, yk172_1] yk172_0 = true := by decide +kernel
theorem yx172_1 : y_runC y_hn0 (ytb yw172) 100000 yc172 [yk172_0, yk172_1] yk172_1 = true := by decide +kernel
-- RailwayHouseModel.anyTwice: 331 steps
theorem ye173 : y_runE y_hn0 (ytb yw173) 100000 yc173 [yk173_0, yk173_1] = true := by decide +kernel
theorem yx173_0 : y_runC y_hn0 (ytb yw173) 100000 yc173 [yk173_0, yk173_1] yk173_0 = true := by decide +kernel
theorem yx173_1 : y_runC y_hn0 (ytb yw173) 100000 yc173 [yk173_0, yk173_1] yk173_1 = true := by decide +kernel
-- RailwayHouseModel.beginAll: 89 steps
theorem ye174 : y_runE y_hn0 (ytb yw174) 100000 yc174 [yk174_0] = true := by decide +kernel
theorem yx174_0 : y_runC y_hn0 (ytb yw174) 100000 yc174 [yk174_0] yk174_0 = true := by decide +kernel
-- RailwayHouseModel.beginHouse: 203 steps
theorem ye175 : y_runE y_hn0 (ytb yw175) 100000 yc175 [yk175_0, yk175_1, yk175_2, yk175_3] = true := by decide +kernel
theorem yx175_0 : y_runC y_hn0 (ytb yw175) 100000 yc175 [yk175_0, yk175_1, yk175_2, yk175_3] yk175_0 = true := by decide +kernel
theorem yx175_1 : y_runC y_hn0 (ytb yw175) 100000 yc175 [yk175_0, yk175_1, yk175_2, yk175_3] yk175_1 = true := by decide +kernel
theorem yx175_2 : y_runC y_hn0 (ytb yw175) 100000 yc175 [yk175_0, yk175_1, yk175_2, yk175_3] yk175_2 = true := by decide +kernel
theorem yx175_3 : y_runC y_hn0 (ytb yw175) 100000 yc175 [yk175_0, yk175_1, yk175_2, yk175_3] yk175_3 = true := by decide +kernel
-- RailwayHouseModel.bindsNeed: 130 steps
theorem ye176 : y_runE y_hn0 (ytb yw176) 100000 yc176 [yk176_0] = true := by decide +kernel
theorem yx176_0 : y_runC y_hn0 (ytb yw176) 100000 yc176 [yk176_0] yk176_0 = true := by decide +kernel
-- RailwayHouseModel.block: 90 steps
theorem ye177 : y_runE y_hn0 (ytb yw177) 100000 yc177 [] = true := by decide +kernel
-- RailwayHouseModel.borderOf: 77 steps
theorem ye178 : y_runE y_hn0 (ytb yw178) 100000 yc178 [] = true := by decide +kernel
-- RailwayHouseModel.called: 455 steps
theorem ye179 : y_runE y_hn0 (ytb yw179) 100000 yc179 [yk179_0] = true := by decide +kernel
theorem yx179_0 : y_runC y_hn0 (ytb yw179) 100000 yc179 [yk179_0] yk179_0 = true := by decide +kernel
-- RailwayHouseModel.cancel: 49 steps
theorem ye180 : y_runE y_hn0 (ytb yw180) 100000 yc180 [] = true := by decide +kernel
-- RailwayHouseModel.cancelIn: 91 steps
theorem ye181 : y_runE y_hn0 (ytb yw181) 100000 yc181 [] = true := by decide +kernel
-- RailwayHouseModel.channel: 48 steps
theorem ye182 : y_runE y_hn0 (ytb yw182) 100000 yc182 [] = true := by decide +kernel
-- RailwayHouseModel.clear: 7 steps
theorem ye183 : y_runE y_hn0 (ytb yw183) 100000 yc183 [] = true := by decide +kernel
-- RailwayHouseModel.clearLine: 8 steps
theorem ye184 : y_runE y_hn0 (ytb yw184) 100000 yc184 [] = true := by decide +kernel
-- RailwayHouseModel.conflict: 2854 steps
theorem ye185 : y_runE y_hn0 (ytb yw185) 100000 yc185 [] = true := by decide +kernel
-- RailwayHouseModel.copyChannel: 265 steps
theorem ye186 : y_runE y_hn0 (ytb yw186) 100000 yc186 [yk186_0] = true := by decide +kernel
theorem yx186_0 : y_runC y_hn0 (ytb yw186) 100000 yc186 [yk186_0] yk186_0 = true := by decide +kernel
-- RailwayHouseModel.costOf: 967 steps
theorem ye187 : y_runE y_hn0 (ytb yw187) 100000 yc187 [yk187_0] = true := by decide +kernel
theorem yx187_0 : y_runC y_hn0 (ytb yw187) 100000 yc187 [yk187_0] yk187_0 = true := by decide +kernel
-- RailwayHouseModel.count: 61 steps
theorem ye188 : y_runE y_hn0 (ytb yw188) 100000 yc188 [] = true := by decide +kernel
-- RailwayHouseModel.cut: 13 steps
theorem ye189 : y_runE y_hn0 (ytb yw189) 100000 yc189 [] = true := by decide +kernel
-- RailwayHouseModel.cycle: 237 steps
theorem ye190 : y_runE y_hn0 (ytb yw190) 100000 yc190 [yk190_0, yk190_1] = true := by decide +kernel
theorem yx190_0 : y_runC y_hn0 (ytb yw190) 100000 yc190 [yk190_0, yk190_1] yk190_0 = true := by decide +kernel
theorem yx190_1 : y_runC y_hn0 (ytb yw190) 100000 yc190 [yk190_0, yk190_1] yk190_1 = true := by decide +kernel
-- RailwayHouseModel.cycleOf: 1234 steps
theorem ye191 : y_runE y_hn0 (ytb yw191) 100000 yc191 [] = true := by decide +kernel
-- RailwayHouseModel.cyclesAndVote: 491 steps
theorem ye192 : y_runE y_hn0 (ytb yw192) 100000 yc192 [yk192_0, yk192_1] = true := by decide +kernel
theorem yx192_0 : y_runC y_hn0 (ytb yw192) 100000 yc192 [yk192_0, yk192_1] yk192_0 = true := by decide +kernel
theorem yx192_1 : y_runC y_hn0 (ytb yw192) 100000 yc192 [yk192_0, yk192_1] yk192_1 = true := by decide +kernel
-- RailwayHouseModel.end: 30 steps
theorem ye193 : y_runE y_hn0 (ytb yw193) 100000 yc193 [] = true := by decide +kernel
-- RailwayHouseModel.fault: 60 steps
theorem ye194 : y_runE y_hn0 (ytb yw194) 100000 yc194 [] = true := by decide +kernel
-- RailwayHouseModel.feed: 760 steps
theorem ye195 : y_runE y_hn0 (ytb yw195) 100000 yc195 [] = true := by decide +kernel
-- RailwayHouseModel.findJourneys: 179 steps
theorem ye196 : y_runE y_hn0 (ytb yw196) 100000 yc196 [yk196_0, yk196_1, yk196_2, yk196_3] = true := by decide +kernel
theorem yx196_0 : y_runC y_hn0 (ytb yw196) 100000 yc196 [yk196_0, yk196_1, yk196_2, yk196_3] yk196_0 = true := by decide +kernel
theorem yx196_1 : y_runC y_hn0 (ytb yw196) 100000 yc196 [yk196_0, yk196_1, yk196_2, yk196_3] yk196_1 = true := by decide +kernel
theorem yx196_2 : y_runC y_hn0 (ytb yw196) 100000 yc196 [yk196_0, yk196_1, yk196_2, yk196_3] yk196_2 = true := by decide +kernel
theorem yx196_3 : y_runC y_hn0 (ytb yw196) 100000 yc196 [yk196_0, yk196_1, yk196_2, yk196_3] yk196_3 = true := by decide +kernel
