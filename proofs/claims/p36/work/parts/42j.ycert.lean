-- RailwayHouseModel.moveBerths: 244 steps
theorem ye168 : y_runE y_hn0 (ytb yw168) 100000 yc168 [yk168_0] = true := by decide +kernel
theorem yx168_0 : y_runC y_hn0 (ytb yw168) 100000 yc168 [yk168_0] yk168_0 = true := by decide +kernel
-- RailwayHouseModel.needUnlike: 161 steps
theorem ye169 : y_runE y_hn0 (ytb yw169) 100000 yc169 [yk169_0, yk169_1] = true := by decide +kernel
theorem yx169_0 : y_runC y_hn0 (ytb yw169) 100000 yc169 [yk169_0, yk169_1] yk169_0 = true := by decide +kernel
theorem yx169_1 : y_runC y_hn0 (ytb yw169) 100000 yc169 [yk169_0, yk169_1] yk169_1 = true := by decide +kernel
-- RailwayHouseModel.nextChoices: 18 steps
theorem ye170 : y_runE y_hn0 (ytb yw170) 100000 yc170 [yk170_0] = true := by decide +kernel
theorem yx170_0 : y_runC y_hn0 (ytb yw170) 100000 yc170 [yk170_0] yk170_0 = true := by decide +kernel
-- RailwayHouseModel.noReports: 37 steps
theorem ye171 : y_runE y_hn0 (ytb yw171) 100000 yc171 [yk171_0] = true := by decide +kernel
theorem yx171_0 : y_runC y_hn0 (ytb yw171) 100000 yc171 [yk171_0] yk171_0 = true := by decide +kernel
-- RailwayHouseModel.offer: 88 steps
theorem ye172 : y_runE y_hn0 (ytb yw172) 100000 yc172 [] = true := by decide +kernel
-- RailwayHouseModel.option: 55 steps
theorem ye173 : y_runE y_hn0 (ytb yw173) 100000 yc173 [] = true := by decide +kernel
-- RailwayHouseModel.pay: 41 steps
theorem ye174 : y_runE y_hn0 (ytb yw174) 100000 yc174 [] = true := by decide +kernel
-- RailwayHouseModel.place: 3 steps
theorem ye175 : y_runE y_hn0 (ytb yw175) 100000 yc175 [] = true := by decide +kernel
-- RailwayHouseModel.pointGoes: 125 steps
theorem ye176 : y_runE y_hn0 (ytb yw176) 100000 yc176 [] = true := by decide +kernel
-- RailwayHouseModel.proceedsAlone: 310 steps
theorem ye177 : y_runE y_hn0 (ytb yw177) 100000 yc177 [yk177_0] = true := by decide +kernel
theorem yx177_0 : y_runC y_hn0 (ytb yw177) 100000 yc177 [yk177_0] yk177_0 = true := by decide +kernel
-- RailwayHouseModel.report: 1233 steps
theorem ye178 : y_runE y_hn0 (ytb yw178) 100000 yc178 [yk178_0] = true := by decide +kernel
theorem yx178_0 : y_runC y_hn0 (ytb yw178) 100000 yc178 [yk178_0] yk178_0 = true := by decide +kernel
-- RailwayHouseModel.reset: 169 steps
theorem ye179 : y_runE y_hn0 (ytb yw179) 100000 yc179 [yk179_0, yk179_1] = true := by decide +kernel
theorem yx179_0 : y_runC y_hn0 (ytb yw179) 100000 yc179 [yk179_0, yk179_1] yk179_0 = true := by decide +kernel
theorem yx179_1 : y_runC y_hn0 (ytb yw179) 100000 yc179 [yk179_0, yk179_1] yk179_1 = true := by decide +kernel
-- RailwayHouseModel.route: 72 steps
theorem ye180 : y_runE y_hn0 (ytb yw180) 100000 yc180 [] = true := by decide +kernel
-- RailwayHouseModel.routeAt: 126 steps
theorem ye181 : y_runE y_hn0 (ytb yw181) 100000 yc181 [] = true := by decide +kernel
-- RailwayHouseModel.routeNeed: 91 steps
theorem ye182 : y_runE y_hn0 (ytb yw182) 100000 yc182 [] = true := by decide +kernel
-- RailwayHouseModel.routeNow: 356 steps
theorem ye183 : y_runE y_hn0 (ytb yw183) 100000 yc183 [] = true := by decide +kernel
-- RailwayHouseModel.routeSection: 80 steps
theorem ye184 : y_runE y_hn0 (ytb yw184) 100000 yc184 [] = true := by decide +kernel
-- RailwayHouseModel.run: 53 steps
theorem ye185 : y_runE y_hn0 (ytb yw185) 100000 yc185 [] = true := by decide +kernel
-- RailwayHouseModel.samePhases: 327 steps
theorem ye186 : y_runE y_hn0 (ytb yw186) 100000 yc186 [yk186_0] = true := by decide +kernel
theorem yx186_0 : y_runC y_hn0 (ytb yw186) 100000 yc186 [yk186_0] yk186_0 = true := by decide +kernel
-- RailwayHouseModel.section: 127 steps
theorem ye187 : y_runE y_hn0 (ytb yw187) 100000 yc187 [] = true := by decide +kernel
-- RailwayHouseModel.shareSections: 95 steps
theorem ye188 : y_runE y_hn0 (ytb yw188) 100000 yc188 [yk188_0] = true := by decide +kernel
theorem yx188_0 : y_runC y_hn0 (ytb yw188) 100000 yc188 [yk188_0] yk188_0 = true := by decide +kernel
-- RailwayHouseModel.signal: 69 steps
theorem ye189 : y_runE y_hn0 (ytb yw189) 100000 yc189 [] = true := by decide +kernel
-- RailwayHouseModel.stand: 82 steps
theorem ye190 : y_runE y_hn0 (ytb yw190) 100000 yc190 [] = true := by decide +kernel
-- RailwayHouseModel.start: 79 steps
theorem ye191 : y_runE y_hn0 (ytb yw191) 100000 yc191 [yk191_0, yk191_1] = true := by decide +kernel
theorem yx191_0 : y_runC y_hn0 (ytb yw191) 100000 yc191 [yk191_0, yk191_1] yk191_0 = true := by decide +kernel
theorem yx191_1 : y_runC y_hn0 (ytb yw191) 100000 yc191 [yk191_0, yk191_1] yk191_1 = true := by decide +kernel
-- RailwayHouseModel.station: 84 steps
theorem ye192 : y_runE y_hn0 (ytb yw192) 100000 yc192 [] = true := by decide +kernel
-- RailwayHouseModel.stopAt: 260 steps
theorem ye193 : y_runE y_hn0 (ytb yw193) 100000 yc193 [] = true := by decide +kernel
-- RailwayHouseModel.sync: 812 steps
theorem ye194 : y_runE y_hn0 (ytb yw194) 100000 yc194 [yk194_0] = true := by decide +kernel
theorem yx194_0 : y_runC y_hn0 (ytb yw194) 100000 yc194 [yk194_0] yk194_0 = true := by decide +kernel
-- RailwayHouseModel.takeFromDisk: 411 steps
theorem ye195 : y_runE y_hn0 (ytb yw195) 100000 yc195 [] = true := by decide +kernel
-- RailwayHouseModel.takeLayout: 255 steps
theorem ye196 : y_runE y_hn0 (ytb yw196) 100000 yc196 [yk196_0, yk196_1, yk196_2] = true := by decide +kernel
theorem yx196_0 : y_runC y_hn0 (ytb yw196) 100000 yc196 [yk196_0, yk196_1, yk196_2] yk196_0 = true := by decide +kernel
theorem yx196_1 : y_runC y_hn0 (ytb yw196) 100000 yc196 [yk196_0, yk196_1, yk196_2] yk196_1 = true := by decide +kernel
theorem yx196_2 : y_runC y_hn0 (ytb yw196) 100000 yc196 [yk196_0, yk196_1, yk196_2] yk196_2 = true := by decide +kernel
-- RailwayHouseModel.turn: 73 steps
theorem ye197 : y_runE y_hn0 (ytb yw197) 100000 yc197 [] = true := by decide +kernel
-- RailwayHouseModel.used: 127 steps
theorem ye198 : y_runE y_hn0 (ytb yw198) 100000 yc198 [] = true := by decide +kernel
