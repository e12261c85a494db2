-- RailwayHouse$Ways.want: 183 steps
theorem ye106 : y_runE y_hn0 (ytb yw106) 100000 yc106 [yk106_0] = true := by decide +kernel
theorem yx106_0 : y_runC y_hn0 (ytb yw106) 100000 yc106 [yk106_0] yk106_0 = true := by decide +kernel
-- RailwayHouse$Ways.wantFlank: 83 steps
theorem ye107 : y_runE y_hn0 (ytb yw107) 100000 yc107 [] = true := by decide +kernel
-- RailwayHouse$Ways.wantedFor: 87 steps
theorem ye108 : y_runE y_hn0 (ytb yw108) 100000 yc108 [yk108_0] = true := by decide +kernel
theorem yx108_0 : y_runC y_hn0 (ytb yw108) 100000 yc108 [yk108_0] yk108_0 = true := by decide +kernel
-- RailwayHouse$Yard.begin: 71 steps
theorem ye109 : y_runE y_hn0 (ytb yw109) 100000 yc109 [yk109_0] = true := by decide +kernel
theorem yx109_0 : y_runC y_hn0 (ytb yw109) 100000 yc109 [yk109_0] yk109_0 = true := by decide +kernel
-- RailwayHouse$Yard.crosses: 255 steps
theorem ye110 : y_runE y_hn0 (ytb yw110) 100000 yc110 [] = true := by decide +kernel
-- RailwayHouse$Yard.firstOn: 67 steps
theorem ye111 : y_runE y_hn0 (ytb yw111) 100000 yc111 [yk111_0] = true := by decide +kernel
theorem yx111_0 : y_runC y_hn0 (ytb yw111) 100000 yc111 [yk111_0] yk111_0 = true := by decide +kernel
-- RailwayHouse$Yard.goOn: 254 steps
theorem ye112 : y_runE y_hn0 (ytb yw112) 100000 yc112 [yk112_0] = true := by decide +kernel
theorem yx112_0 : y_runC y_hn0 (ytb yw112) 100000 yc112 [yk112_0] yk112_0 = true := by decide +kernel
-- RailwayHouse$Yard.isMoving: 49 steps
theorem ye113 : y_runE y_hn0 (ytb yw113) 100000 yc113 [yk113_0] = true := by decide +kernel
theorem yx113_0 : y_runC y_hn0 (ytb yw113) 100000 yc113 [yk113_0] yk113_0 = true := by decide +kernel
-- RailwayHouse$Yard.isSafe: 133 steps
theorem ye114 : y_runE y_hn0 (ytb yw114) 100000 yc114 [yk114_0] = true := by decide +kernel
theorem yx114_0 : y_runC y_hn0 (ytb yw114) 100000 yc114 [yk114_0] yk114_0 = true := by decide +kernel
-- RailwayHouse$Yard.keepsLimits: 87 steps
theorem ye115 : y_runE y_hn0 (ytb yw115) 100000 yc115 [yk115_0] = true := by decide +kernel
theorem yx115_0 : y_runC y_hn0 (ytb yw115) 100000 yc115 [yk115_0] yk115_0 = true := by decide +kernel
-- RailwayHouse$Yard.liesToOne: 215 steps
theorem ye116 : y_runE y_hn0 (ytb yw116) 100000 yc116 [yk116_0] = true := by decide +kernel
theorem yx116_0 : y_runC y_hn0 (ytb yw116) 100000 yc116 [yk116_0] yk116_0 = true := by decide +kernel
-- RailwayHouse$Yard.nextSpeed: 73 steps
theorem ye117 : y_runE y_hn0 (ytb yw117) 100000 yc117 [yk117_0] = true := by decide +kernel
theorem yx117_0 : y_runC y_hn0 (ytb yw117) 100000 yc117 [yk117_0] yk117_0 = true := by decide +kernel
-- RailwayHouse$Yard.pointGoesOn: 95 steps
theorem ye118 : y_runE y_hn0 (ytb yw118) 100000 yc118 [] = true := by decide +kernel
-- RailwayHouse$Yard.pointsGoOn: 109 steps
theorem ye119 : y_runE y_hn0 (ytb yw119) 100000 yc119 [yk119_0] = true := by decide +kernel
theorem yx119_0 : y_runC y_hn0 (ytb yw119) 100000 yc119 [yk119_0] yk119_0 = true := by decide +kernel
-- RailwayHouse$Yard.presentTrain: 37 steps
theorem ye120 : y_runE y_hn0 (ytb yw120) 100000 yc120 [] = true := by decide +kernel
-- RailwayHouse$Yard.survey: 214 steps
theorem ye121 : y_runE y_hn0 (ytb yw121) 100000 yc121 [yk121_0, yk121_1] = true := by decide +kernel
theorem yx121_0 : y_runC y_hn0 (ytb yw121) 100000 yc121 [yk121_0, yk121_1] yk121_0 = true := by decide +kernel
theorem yx121_1 : y_runC y_hn0 (ytb yw121) 100000 yc121 [yk121_0, yk121_1] yk121_1 = true := by decide +kernel
-- RailwayHouse$Yard.surveyAhead: 435 steps
theorem ye122 : y_runE y_hn0 (ytb yw122) 100000 yc122 [yk122_0] = true := by decide +kernel
theorem yx122_0 : y_runC y_hn0 (ytb yw122) 100000 yc122 [yk122_0] yk122_0 = true := by decide +kernel
-- RailwayHouse$Yard.trainsMove: 124 steps
theorem ye123 : y_runE y_hn0 (ytb yw123) 100000 yc123 [yk123_0] = true := by decide +kernel
theorem yx123_0 : y_runC y_hn0 (ytb yw123) 100000 yc123 [yk123_0] yk123_0 = true := by decide +kernel
-- RailwayHouse$Yard.twoOnOne: 65 steps
theorem ye124 : y_runE y_hn0 (ytb yw124) 100000 yc124 [yk124_0] = true := by decide +kernel
theorem yx124_0 : y_runC y_hn0 (ytb yw124) 100000 yc124 [yk124_0] yk124_0 = true := by decide +kernel
-- RailwayHouse.audit: 18 steps
theorem ye125 : y_runE y_hn0 (ytb yw125) 100000 yc125 [] = true := by decide +kernel
-- RailwayHouse.beginYard: 51 steps
theorem ye126 : y_runE y_hn0 (ytb yw126) 100000 yc126 [yk126_0] = true := by decide +kernel
theorem yx126_0 : y_runC y_hn0 (ytb yw126) 100000 yc126 [yk126_0] yk126_0 = true := by decide +kernel
-- RailwayHouse.block: 78 steps
theorem ye127 : y_runE y_hn0 (ytb yw127) 100000 yc127 [] = true := by decide +kernel
-- RailwayHouse.cancel: 32 steps
theorem ye128 : y_runE y_hn0 (ytb yw128) 100000 yc128 [] = true := by decide +kernel
-- RailwayHouse.channel: 68 steps
theorem ye129 : y_runE y_hn0 (ytb yw129) 100000 yc129 [] = true := by decide +kernel
-- RailwayHouse.clear: 45 steps
theorem ye130 : y_runE y_hn0 (ytb yw130) 100000 yc130 [] = true := by decide +kernel
-- RailwayHouse.clearLine: 10 steps
theorem ye131 : y_runE y_hn0 (ytb yw131) 100000 yc131 [] = true := by decide +kernel
-- RailwayHouse.conflict: 54 steps
theorem ye132 : y_runE y_hn0 (ytb yw132) 100000 yc132 [] = true := by decide +kernel
-- RailwayHouse.count: 74 steps
theorem ye133 : y_runE y_hn0 (ytb yw133) 100000 yc133 [] = true := by decide +kernel
-- RailwayHouse.cut: 18 steps
theorem ye134 : y_runE y_hn0 (ytb yw134) 100000 yc134 [] = true := by decide +kernel
-- RailwayHouse.dispatch: 19 steps
theorem ye135 : y_runE y_hn0 (ytb yw135) 100000 yc135 [] = true := by decide +kernel
-- RailwayHouse.end: 17 steps
theorem ye136 : y_runE y_hn0 (ytb yw136) 100000 yc136 [] = true := by decide +kernel
-- RailwayHouse.fault: 71 steps
theorem ye137 : y_runE y_hn0 (ytb yw137) 100000 yc137 [] = true := by decide +kernel
-- RailwayHouse.feed: 513 steps
theorem ye138 : y_runE y_hn0 (ytb yw138) 100000 yc138 [] = true := by decide +kernel
-- RailwayHouse.force: 144 steps
theorem ye139 : y_runE y_hn0 (ytb yw139) 100000 yc139 [] = true := by decide +kernel
-- RailwayHouse.give: 51 steps
theorem ye140 : y_runE y_hn0 (ytb yw140) 100000 yc140 [] = true := by decide +kernel
-- RailwayHouse.hold: 221 steps
theorem ye141 : y_runE y_hn0 (ytb yw141) 100000 yc141 [] = true := by decide +kernel
-- RailwayHouse.holdAt: 48 steps
theorem ye142 : y_runE y_hn0 (ytb yw142) 100000 yc142 [] = true := by decide +kernel
-- RailwayHouse.holder: 101 steps
theorem ye143 : y_runE y_hn0 (ytb yw143) 100000 yc143 [] = true := by decide +kernel
-- RailwayHouse.interpose: 60 steps
theorem ye144 : y_runE y_hn0 (ytb yw144) 100000 yc144 [] = true := by decide +kernel
-- RailwayHouse.journey: 78 steps
theorem ye145 : y_runE y_hn0 (ytb yw145) 100000 yc145 [] = true := by decide +kernel
-- RailwayHouse.leave: 56 steps
theorem ye146 : y_runE y_hn0 (ytb yw146) 100000 yc146 [] = true := by decide +kernel
-- RailwayHouse.leg: 99 steps
theorem ye147 : y_runE y_hn0 (ytb yw147) 100000 yc147 [] = true := by decide +kernel
-- RailwayHouse.lie: 42 steps
theorem ye148 : y_runE y_hn0 (ytb yw148) 100000 yc148 [] = true := by decide +kernel
-- RailwayHouse.line: 178 steps
theorem ye149 : y_runE y_hn0 (ytb yw149) 100000 yc149 [] = true := by decide +kernel
-- RailwayHouse.load: 95 steps
theorem ye150 : y_runE y_hn0 (ytb yw150) 100000 yc150 [] = true := by decide +kernel
-- RailwayHouse.move: 51 steps
theorem ye151 : y_runE y_hn0 (ytb yw151) 100000 yc151 [] = true := by decide +kernel
-- RailwayHouse.option: 56 steps
theorem ye152 : y_runE y_hn0 (ytb yw152) 100000 yc152 [] = true := by decide +kernel
-- RailwayHouse.pay: 40 steps
theorem ye153 : y_runE y_hn0 (ytb yw153) 100000 yc153 [] = true := by decide +kernel
-- RailwayHouse.place: 4 steps
theorem ye154 : y_runE y_hn0 (ytb yw154) 100000 yc154 [] = true := by decide +kernel
-- RailwayHouse.putNumber: 45 steps
theorem ye155 : y_runE y_hn0 (ytb yw155) 100000 yc155 [] = true := by decide +kernel
-- RailwayHouse.release: 32 steps
theorem ye156 : y_runE y_hn0 (ytb yw156) 100000 yc156 [] = true := by decide +kernel
-- RailwayHouse.reset: 57 steps
theorem ye157 : y_runE y_hn0 (ytb yw157) 100000 yc157 [] = true := by decide +kernel
-- RailwayHouse.route: 60 steps
theorem ye158 : y_runE y_hn0 (ytb yw158) 100000 yc158 [] = true := by decide +kernel
-- RailwayHouse.routeAt: 74 steps
theorem ye159 : y_runE y_hn0 (ytb yw159) 100000 yc159 [] = true := by decide +kernel
-- RailwayHouse.routeNeed: 49 steps
theorem ye160 : y_runE y_hn0 (ytb yw160) 100000 yc160 [] = true := by decide +kernel
-- RailwayHouse.routeSection: 49 steps
theorem ye161 : y_runE y_hn0 (ytb yw161) 100000 yc161 [] = true := by decide +kernel
-- RailwayHouse.run: 60 steps
theorem ye162 : y_runE y_hn0 (ytb yw162) 100000 yc162 [] = true := by decide +kernel
-- RailwayHouse.section: 39 steps
theorem ye163 : y_runE y_hn0 (ytb yw163) 100000 yc163 [] = true := by decide +kernel
-- RailwayHouse.set: 32 steps
theorem ye164 : y_runE y_hn0 (ytb yw164) 100000 yc164 [] = true := by decide +kernel
-- RailwayHouse.signal: 63 steps
theorem ye165 : y_runE y_hn0 (ytb yw165) 100000 yc165 [] = true := by decide +kernel
-- RailwayHouse.stand: 58 steps
theorem ye166 : y_runE y_hn0 (ytb yw166) 100000 yc166 [] = true := by decide +kernel
-- RailwayHouse.start: 16 steps
theorem ye167 : y_runE y_hn0 (ytb yw167) 100000 yc167 [] = true := by decide +kernel
-- RailwayHouse.station: 83 steps
theorem ye168 : y_runE y_hn0 (ytb yw168) 100000 yc168 [] = true := by decide +kernel
-- RailwayHouse.stepBerths: 340 steps
theorem ye169 : y_runE y_hn0 (ytb yw169) 100000 yc169 [yk169_0] = true := by decide +kernel
theorem yx169_0 : y_runC y_hn0 (ytb yw169) 100000 yc169 [yk169_0] yk169_0 = true := by decide +kernel
-- RailwayHouse.stepNumber: 61 steps
theorem ye170 : y_runE y_hn0 (ytb yw170) 100000 yc170 [] = true := by decide +kernel
-- RailwayHouse.stopAt: 230 steps
theorem ye171 : y_runE y_hn0 (ytb yw171) 100000 yc171 [] = true := by decide +kernel
-- RailwayHouse.sync: 16 steps
theorem ye172 : y_runE y_hn0 (ytb yw172) 100000 yc172 [] = true := by decide +kernel
-- RailwayHouse.tick: 117 steps
theorem ye173 : y_runE y_hn0 (ytb yw173) 100000 yc173 [yk173_0] = true := by decide +kernel
theorem yx173_0 : y_runC y_hn0 (ytb yw173) 100000 yc173 [yk173_0] yk173_0 = true := by decide +kernel
-- RailwayHouse.train: 48 steps
theorem ye174 : y_runE y_hn0 (ytb yw174) 100000 yc174 [] = true := by decide +kernel
-- RailwayHouse.trainOn: 30 steps
theorem ye175 : y_runE y_hn0 (ytb yw175) 100000 yc175 [] = true := by decide +kernel
-- RailwayHouse.turn: 52 steps
theorem ye176 : y_runE y_hn0 (ytb yw176) 100000 yc176 [] = true := by decide +kernel
-- RailwayHouse.used: 146 steps
theorem ye177 : y_runE y_hn0 (ytb yw177) 100000 yc177 [] = true := by decide +kernel
-- RailwayHouseModel.addOption: 554 steps
theorem ye178 : y_runE y_hn0 (ytb yw178) 100000 yc178 [yk178_0] = true := by decide +kernel
theorem yx178_0 : y_runC y_hn0 (ytb yw178) 100000 yc178 [yk178_0] yk178_0 = true := by decide +kernel
-- RailwayHouseModel.addRoute: 179 steps
theorem ye179 : y_runE y_hn0 (ytb yw179) 100000 yc179 [yk179_0, yk179_1] = true := by decide +kernel
theorem yx179_0 : y_runC y_hn0 (ytb yw179) 100000 yc179 [yk179_0, yk179_1] yk179_0 = true := by decide +kernel
theorem yx179_1 : y_runC y_hn0 (ytb yw179) 100000 yc179 [yk179_0, yk179_1] yk179_1 = true := by decide +kernel
-- RailwayHouseModel.allFree: 110 steps
theorem ye180 : y_runE y_hn0 (ytb yw180) 100000 yc180 [yk180_0] = true := by decide +kernel
theorem yx180_0 : y_runC y_hn0 (ytb yw180) 100000 yc180 [yk180_0] yk180_0 = true := by decide +kernel
-- RailwayHouseModel.allLie: 219 steps
theorem ye181 : y_runE y_hn0 (ytb yw181) 100000 yc181 [yk181_0] = true := by decide +kernel
theorem yx181_0 : y_runC y_hn0 (ytb yw181) 100000 yc181 [yk181_0] yk181_0 = true := by decide +kernel
-- RailwayHouseModel.anyMoves: 105 steps
theorem ye182 : y_runE y_hn0 (ytb yw182) 100000 yc182 [yk182_0] = true := by decide +kernel
theorem yx182_0 : y_runC y_hn0 (ytb yw182) 100000 yc182 [yk182_0] yk182_0 = true := by decide +kernel
-- RailwayHouseModel.anyTorn: 627 steps
theorem ye183 : y_runE y_hn0 (ytb yw183) 100000 yc183 [yk183_0, yk183_1] = true := by decide +kernel
theorem yx183_0 : y_runC y_hn0 (ytb yw183) 100000 yc183 [yk183_0, yk183_1] yk183_0 = true := by decide +kernel
theorem yx183_1 : y_runC y_hn0 (ytb yw183) 100000 yc183 [yk183_0, yk183_1] yk183_1 = true := by decide +kernel
-- RailwayHouseModel.anyTwice: 331 steps
theorem ye184 : y_runE y_hn0 (ytb yw184) 100000 yc184 [yk184_0, yk184_1] = true := by decide +kernel
theorem yx184_0 : y_runC y_hn0 (ytb yw184) 100000 yc184 [yk184_0, yk184_1] yk184_0 = true := by decide +kernel
theorem yx184_1 : y_runC y_hn0 (ytb yw184) 100000 yc184 [yk184_0, yk184_1] yk184_1 = true := by decide +kernel
-- RailwayHouseModel.anyTwoTrains: 173 steps
theorem ye185 : y_runE y_hn0 (ytb yw185) 100000 yc185 [yk185_0, yk185_1] = true := by decide +kernel
theorem yx185_0 : y_runC y_hn0 (ytb yw185) 100000 yc185 [yk185_0, yk185_1] yk185_0 = true := by decide +kernel
theorem yx185_1 : y_runC y_hn0 (ytb yw185) 100000 yc185 [yk185_0, yk185_1] yk185_1 = true := by decide +kernel
-- RailwayHouseModel.audit: 633 steps
theorem ye186 : y_runE y_hn0 (ytb yw186) 100000 yc186 [yk186_0, yk186_1] = true := by decide +kernel
theorem yx186_0 : y_runC y_hn0 (ytb yw186) 100000 yc186 [yk186_0, yk186_1] yk186_0 = true := by decide +kernel
theorem yx186_1 : y_runC y_hn0 (ytb yw186) 100000 yc186 [yk186_0, yk186_1] yk186_1 = true := by decide +kernel
-- RailwayHouseModel.beginAll: 89 steps
theorem ye187 : y_runE y_hn0 (ytb yw187) 100000 yc187 [yk187_0] = true := by decide +kernel
theorem yx187_0 : y_runC y_hn0 (ytb yw187) 100000 yc187 [yk187_0] yk187_0 = true := by decide +kernel
-- RailwayHouseModel.beginHouse: 345 steps
theorem ye188 : y_runE y_hn0 (ytb yw188) 100000 yc188 [yk188_0, yk188_1, yk188_2] = true := by decide +kernel
theorem yx188_0 : y_runC y_hn0 (ytb yw188) 100000 yc188 [yk188_0, yk188_1, yk188_2] yk188_0 = true := by decide +kernel
theorem yx188_1 : y_runC y_hn0 (ytb yw188) 100000 yc188 [yk188_0, yk188_1, yk188_2] yk188_1 = true := by decide +kernel
theorem yx188_2 : y_runC y_hn0 (ytb yw188) 100000 yc188 [yk188_0, yk188_1, yk188_2] yk188_2 = true := by decide +kernel
-- RailwayHouseModel.bindsNeed: 130 steps
theorem ye189 : y_runE y_hn0 (ytb yw189) 100000 yc189 [yk189_0] = true := by decide +kernel
theorem yx189_0 : y_runC y_hn0 (ytb yw189) 100000 yc189 [yk189_0] yk189_0 = true := by decide +kernel
-- RailwayHouseModel.block: 90 steps
theorem ye190 : y_runE y_hn0 (ytb yw190) 100000 yc190 [] = true := by decide +kernel
-- RailwayHouseModel.called: 455 steps
theorem ye191 : y_runE y_hn0 (ytb yw191) 100000 yc191 [yk191_0] = true := by decide +kernel
theorem yx191_0 : y_runC y_hn0 (ytb yw191) 100000 yc191 [yk191_0] yk191_0 = true := by decide +kernel
-- RailwayHouseModel.cancel: 49 steps
theorem ye192 : y_runE y_hn0 (ytb yw192) 100000 yc192 [] = true := by decide +kernel
-- RailwayHouseModel.cancelIn: 91 steps
theorem ye193 : y_runE y_hn0 (ytb yw193) 100000 yc193 [] = true := by decide +kernel
-- RailwayHouseModel.channel: 48 steps
theorem ye194 : y_runE y_hn0 (ytb yw194) 100000 yc194 [] = true := by decide +kernel
-- RailwayHouseModel.clear: 7 steps
theorem ye195 : y_runE y_hn0 (ytb yw195) 100000 yc195 [] = true := by decide +kernel
-- RailwayHouseModel.clearLine: 8 steps
theorem ye196 : y_runE y_hn0 (ytb yw196) 100000 yc196 [] = true := by decide +kernel
-- RailwayHouseModel.conflict: 2854 steps
theorem ye197 : y_runE y_hn0 (ytb yw197) 100000 yc197 [] = true := by decide +kernel
