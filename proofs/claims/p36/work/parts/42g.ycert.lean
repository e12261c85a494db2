-- RailwayHouse$Ways.conflictOf: 792 steps
theorem ye56 : y_runE y_hn0 (ytb yw56) 100000 yc56 [] = true := by decide +kernel
-- RailwayHouse$Ways.findAll: 18 steps
theorem ye57 : y_runE y_hn0 (ytb yw57) 100000 yc57 [yk57_0] = true := by decide +kernel
theorem yx57_0 : y_runC y_hn0 (ytb yw57) 100000 yc57 [yk57_0] yk57_0 = true := by decide +kernel
-- RailwayHouse$Yard.begin: 71 steps
theorem ye58 : y_runE y_hn0 (ytb yw58) 100000 yc58 [yk58_0] = true := by decide +kernel
theorem yx58_0 : y_runC y_hn0 (ytb yw58) 100000 yc58 [yk58_0] yk58_0 = true := by decide +kernel
-- RailwayHouse$Yard.firstOn: 67 steps
theorem ye59 : y_runE y_hn0 (ytb yw59) 100000 yc59 [yk59_0] = true := by decide +kernel
theorem yx59_0 : y_runC y_hn0 (ytb yw59) 100000 yc59 [yk59_0] yk59_0 = true := by decide +kernel
-- RailwayHouse$Yard.isMoving: 49 steps
theorem ye60 : y_runE y_hn0 (ytb yw60) 100000 yc60 [yk60_0] = true := by decide +kernel
theorem yx60_0 : y_runC y_hn0 (ytb yw60) 100000 yc60 [yk60_0] yk60_0 = true := by decide +kernel
-- RailwayHouse$Yard.isSafe: 133 steps
theorem ye61 : y_runE y_hn0 (ytb yw61) 100000 yc61 [yk61_0] = true := by decide +kernel
theorem yx61_0 : y_runC y_hn0 (ytb yw61) 100000 yc61 [yk61_0] yk61_0 = true := by decide +kernel
-- RailwayHouse$Yard.keepsLimits: 87 steps
theorem ye62 : y_runE y_hn0 (ytb yw62) 100000 yc62 [yk62_0] = true := by decide +kernel
theorem yx62_0 : y_runC y_hn0 (ytb yw62) 100000 yc62 [yk62_0] yk62_0 = true := by decide +kernel
-- RailwayHouse$Yard.liesToOne: 215 steps
theorem ye63 : y_runE y_hn0 (ytb yw63) 100000 yc63 [yk63_0] = true := by decide +kernel
theorem yx63_0 : y_runC y_hn0 (ytb yw63) 100000 yc63 [yk63_0] yk63_0 = true := by decide +kernel
-- RailwayHouse$Yard.nextSpeed: 73 steps
theorem ye64 : y_runE y_hn0 (ytb yw64) 100000 yc64 [yk64_0] = true := by decide +kernel
theorem yx64_0 : y_runC y_hn0 (ytb yw64) 100000 yc64 [yk64_0] yk64_0 = true := by decide +kernel
-- RailwayHouse$Yard.pointGoesOn: 95 steps
theorem ye65 : y_runE y_hn0 (ytb yw65) 100000 yc65 [] = true := by decide +kernel
-- RailwayHouse$Yard.pointsGoOn: 109 steps
theorem ye66 : y_runE y_hn0 (ytb yw66) 100000 yc66 [yk66_0] = true := by decide +kernel
theorem yx66_0 : y_runC y_hn0 (ytb yw66) 100000 yc66 [yk66_0] yk66_0 = true := by decide +kernel
-- RailwayHouse$Yard.presentTrain: 37 steps
theorem ye67 : y_runE y_hn0 (ytb yw67) 100000 yc67 [] = true := by decide +kernel
-- RailwayHouse$Yard.twoOnOne: 65 steps
theorem ye68 : y_runE y_hn0 (ytb yw68) 100000 yc68 [yk68_0] = true := by decide +kernel
theorem yx68_0 : y_runC y_hn0 (ytb yw68) 100000 yc68 [yk68_0] yk68_0 = true := by decide +kernel
-- RailwayHouse.audit: 18 steps
theorem ye69 : y_runE y_hn0 (ytb yw69) 100000 yc69 [] = true := by decide +kernel
-- RailwayHouse.beginYard: 51 steps
theorem ye70 : y_runE y_hn0 (ytb yw70) 100000 yc70 [yk70_0] = true := by decide +kernel
theorem yx70_0 : y_runC y_hn0 (ytb yw70) 100000 yc70 [yk70_0] yk70_0 = true := by decide +kernel
-- RailwayHouse.block: 78 steps
theorem ye71 : y_runE y_hn0 (ytb yw71) 100000 yc71 [] = true := by decide +kernel
-- RailwayHouse.cancel: 32 steps
theorem ye72 : y_runE y_hn0 (ytb yw72) 100000 yc72 [] = true := by decide +kernel
-- RailwayHouse.channel: 68 steps
theorem ye73 : y_runE y_hn0 (ytb yw73) 100000 yc73 [] = true := by decide +kernel
-- RailwayHouse.clear: 45 steps
theorem ye74 : y_runE y_hn0 (ytb yw74) 100000 yc74 [] = true := by decide +kernel
-- RailwayHouse.clearLine: 10 steps
theorem ye75 : y_runE y_hn0 (ytb yw75) 100000 yc75 [] = true := by decide +kernel
-- RailwayHouse.conflict: 54 steps
theorem ye76 : y_runE y_hn0 (ytb yw76) 100000 yc76 [] = true := by decide +kernel
-- RailwayHouse.count: 74 steps
theorem ye77 : y_runE y_hn0 (ytb yw77) 100000 yc77 [] = true := by decide +kernel
-- RailwayHouse.cut: 18 steps
theorem ye78 : y_runE y_hn0 (ytb yw78) 100000 yc78 [] = true := by decide +kernel
-- RailwayHouse.dispatch: 19 steps
theorem ye79 : y_runE y_hn0 (ytb yw79) 100000 yc79 [] = true := by decide +kernel
-- RailwayHouse.end: 17 steps
theorem ye80 : y_runE y_hn0 (ytb yw80) 100000 yc80 [] = true := by decide +kernel
-- RailwayHouse.fault: 71 steps
theorem ye81 : y_runE y_hn0 (ytb yw81) 100000 yc81 [] = true := by decide +kernel
-- RailwayHouse.feed: 513 steps
theorem ye82 : y_runE y_hn0 (ytb yw82) 100000 yc82 [] = true := by decide +kernel
-- RailwayHouse.force: 144 steps
theorem ye83 : y_runE y_hn0 (ytb yw83) 100000 yc83 [] = true := by decide +kernel
-- RailwayHouse.give: 51 steps
theorem ye84 : y_runE y_hn0 (ytb yw84) 100000 yc84 [] = true := by decide +kernel
-- RailwayHouse.hold: 221 steps
theorem ye85 : y_runE y_hn0 (ytb yw85) 100000 yc85 [] = true := by decide +kernel
-- RailwayHouse.holdAt: 48 steps
theorem ye86 : y_runE y_hn0 (ytb yw86) 100000 yc86 [] = true := by decide +kernel
-- RailwayHouse.holder: 101 steps
theorem ye87 : y_runE y_hn0 (ytb yw87) 100000 yc87 [] = true := by decide +kernel
-- RailwayHouse.interpose: 60 steps
theorem ye88 : y_runE y_hn0 (ytb yw88) 100000 yc88 [] = true := by decide +kernel
-- RailwayHouse.leg: 99 steps
theorem ye89 : y_runE y_hn0 (ytb yw89) 100000 yc89 [] = true := by decide +kernel
-- RailwayHouse.lie: 42 steps
theorem ye90 : y_runE y_hn0 (ytb yw90) 100000 yc90 [] = true := by decide +kernel
-- RailwayHouse.line: 178 steps
theorem ye91 : y_runE y_hn0 (ytb yw91) 100000 yc91 [] = true := by decide +kernel
-- RailwayHouse.move: 51 steps
theorem ye92 : y_runE y_hn0 (ytb yw92) 100000 yc92 [] = true := by decide +kernel
-- RailwayHouse.option: 56 steps
theorem ye93 : y_runE y_hn0 (ytb yw93) 100000 yc93 [] = true := by decide +kernel
-- RailwayHouse.pay: 40 steps
theorem ye94 : y_runE y_hn0 (ytb yw94) 100000 yc94 [] = true := by decide +kernel
-- RailwayHouse.place: 4 steps
theorem ye95 : y_runE y_hn0 (ytb yw95) 100000 yc95 [] = true := by decide +kernel
-- RailwayHouse.putNumber: 41 steps
theorem ye96 : y_runE y_hn0 (ytb yw96) 100000 yc96 [] = true := by decide +kernel
-- RailwayHouse.release: 32 steps
theorem ye97 : y_runE y_hn0 (ytb yw97) 100000 yc97 [] = true := by decide +kernel
-- RailwayHouse.reset: 57 steps
theorem ye98 : y_runE y_hn0 (ytb yw98) 100000 yc98 [] = true := by decide +kernel
-- RailwayHouse.route: 60 steps
theorem ye99 : y_runE y_hn0 (ytb yw99) 100000 yc99 [] = true := by decide +kernel
-- RailwayHouse.routeAt: 74 steps
theorem ye100 : y_runE y_hn0 (ytb yw100) 100000 yc100 [] = true := by decide +kernel
-- RailwayHouse.routeNeed: 49 steps
theorem ye101 : y_runE y_hn0 (ytb yw101) 100000 yc101 [] = true := by decide +kernel
-- RailwayHouse.routeSection: 49 steps
theorem ye102 : y_runE y_hn0 (ytb yw102) 100000 yc102 [] = true := by decide +kernel
-- RailwayHouse.run: 60 steps
theorem ye103 : y_runE y_hn0 (ytb yw103) 100000 yc103 [] = true := by decide +kernel
-- RailwayHouse.section: 39 steps
theorem ye104 : y_runE y_hn0 (ytb yw104) 100000 yc104 [] = true := by decide +kernel
-- RailwayHouse.set: 32 steps
theorem ye105 : y_runE y_hn0 (ytb yw105) 100000 yc105 [] = true := by decide +kernel
-- RailwayHouse.signal: 63 steps
theorem ye106 : y_runE y_hn0 (ytb yw106) 100000 yc106 [] = true := by decide +kernel
-- RailwayHouse.stand: 58 steps
theorem ye107 : y_runE y_hn0 (ytb yw107) 100000 yc107 [] = true := by decide +kernel
-- RailwayHouse.start: 16 steps
theorem ye108 : y_runE y_hn0 (ytb yw108) 100000 yc108 [] = true := by decide +kernel
-- RailwayHouse.station: 83 steps
theorem ye109 : y_runE y_hn0 (ytb yw109) 100000 yc109 [] = true := by decide +kernel
-- RailwayHouse.stepBerths: 340 steps
theorem ye110 : y_runE y_hn0 (ytb yw110) 100000 yc110 [yk110_0] = true := by decide +kernel
theorem yx110_0 : y_runC y_hn0 (ytb yw110) 100000 yc110 [yk110_0] yk110_0 = true := by decide +kernel
-- RailwayHouse.stepNumber: 61 steps
theorem ye111 : y_runE y_hn0 (ytb yw111) 100000 yc111 [] = true := by decide +kernel
-- RailwayHouse.stopAt: 230 steps
theorem ye112 : y_runE y_hn0 (ytb yw112) 100000 yc112 [] = true := by decide +kernel
-- RailwayHouse.sync: 16 steps
theorem ye113 : y_runE y_hn0 (ytb yw113) 100000 yc113 [] = true := by decide +kernel
-- RailwayHouse.trainOn: 30 steps
theorem ye114 : y_runE y_hn0 (ytb yw114) 100000 yc114 [] = true := by decide +kernel
-- RailwayHouse.turn: 52 steps
theorem ye115 : y_runE y_hn0 (ytb yw115) 100000 yc115 [] = true := by decide +kernel
-- RailwayHouse.used: 146 steps
theorem ye116 : y_runE y_hn0 (ytb yw116) 100000 yc116 [] = true := by decide +kernel
-- RailwayHouseModel.allLie: 219 steps
theorem ye117 : y_runE y_hn0 (ytb yw117) 100000 yc117 [yk117_0] = true := by decide +kernel
theorem yx117_0 : y_runC y_hn0 (ytb yw117) 100000 yc117 [yk117_0] yk117_0 = true := by decide +kernel
-- RailwayHouseModel.anyMoves: 105 steps
theorem ye118 : y_runE y_hn0 (ytb yw118) 100000 yc118 [yk118_0] = true := by decide +kernel
theorem yx118_0 : y_runC y_hn0 (ytb yw118) 100000 yc118 [yk118_0] yk118_0 = true := by decide +kernel
-- RailwayHouseModel.anyTorn: 627 steps
theorem ye119 : y_runE y_hn0 (ytb yw119) 100000 yc119 [yk119_0, yk119_1] = true := by decide +kernel
theorem yx119_0 : y_runC y_hn0 (ytb yw119) 100000 yc119 [yk119_0, yk119_1] yk119_0 = true := by decide +kernel
theorem yx119_1 : y_runC y_hn0 (ytb yw119) 100000 yc119 [yk119_0, yk119_1] yk119_1 = true := by decide +kernel
