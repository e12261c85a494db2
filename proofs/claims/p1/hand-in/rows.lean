section
/-- a private method of a class that the tables say can be made, by its rows of tables_1 -/
def lw_okq (q : MethodName × Nat) : Prop := (q.1.cls ≠ "java/lang/invoke/MethodHandle" ∧ q.1.cls ≠ "java/lang/invoke/VarHandle") ∧ Cond.instantiable q.1.cls q.2 ∈ tables_1 ∧ Cond.privateMethod q.1 ∈ tables_1 ∧ Cond.instanceMethod q.1 ∈ tables_1
theorem lw_p0 : lw_okq (⟨"RailwayHouse", "beginYard", "()V"⟩, 12) := ⟨⟨by decide +kernel, by decide +kernel⟩, List.mem_of_getElem? (i := 23) (by decide +kernel), List.mem_of_getElem? (i := 569) (by decide +kernel), List.mem_of_getElem? (i := 570) (by decide +kernel)⟩
theorem lw_p1 : lw_okq (⟨"RailwayHouse$Vote", "beginChannels", "(I)V"⟩, 10) := ⟨⟨by decide +kernel, by decide +kernel⟩, List.mem_of_getElem? (i := 254) (by decide +kernel), List.mem_of_getElem? (i := 585) (by decide +kernel), List.mem_of_getElem? (i := 586) (by decide +kernel)⟩
theorem lw_p2 : lw_okq (⟨"RailwayHouse$Channel", "endRoute", "(I)V"⟩, 14) := ⟨⟨by decide +kernel, by decide +kernel⟩, List.mem_of_getElem? (i := 261) (by decide +kernel), List.mem_of_getElem? (i := 593) (by decide +kernel), List.mem_of_getElem? (i := 594) (by decide +kernel)⟩
theorem lw_p3 : lw_okq (⟨"RailwayHouse$Channel", "writeRow", "([II)V"⟩, 14) := ⟨⟨by decide +kernel, by decide +kernel⟩, List.mem_of_getElem? (i := 261) (by decide +kernel), List.mem_of_getElem? (i := 601) (by decide +kernel), List.mem_of_getElem? (i := 602) (by decide +kernel)⟩
theorem lw_p4 : lw_okq (⟨"RailwayHouse$Reader", "scan", "()V"⟩, 9) := ⟨⟨by decide +kernel, by decide +kernel⟩, List.mem_of_getElem? (i := 31) (by decide +kernel), List.mem_of_getElem? (i := 679) (by decide +kernel), List.mem_of_getElem? (i := 680) (by decide +kernel)⟩
theorem lw_p5 : lw_okq (⟨"RailwayHouse$Reader", "scanNumber", "()V"⟩, 9) := ⟨⟨by decide +kernel, by decide +kernel⟩, List.mem_of_getElem? (i := 31) (by decide +kernel), List.mem_of_getElem? (i := 686) (by decide +kernel), List.mem_of_getElem? (i := 687) (by decide +kernel)⟩
theorem lw_p6 : lw_okq (⟨"RailwayHouse$Reader", "fail", "(I)V"⟩, 9) := ⟨⟨by decide +kernel, by decide +kernel⟩, List.mem_of_getElem? (i := 31) (by decide +kernel), List.mem_of_getElem? (i := 690) (by decide +kernel), List.mem_of_getElem? (i := 691) (by decide +kernel)⟩
theorem lw_p7 : lw_okq (⟨"RailwayHouse$Reader", "scanWord", "()V"⟩, 9) := ⟨⟨by decide +kernel, by decide +kernel⟩, List.mem_of_getElem? (i := 31) (by decide +kernel), List.mem_of_getElem? (i := 697) (by decide +kernel), List.mem_of_getElem? (i := 698) (by decide +kernel)⟩
theorem lw_p8 : lw_okq (⟨"RailwayHouse$Reader", "checkWhole", "()V"⟩, 9) := ⟨⟨by decide +kernel, by decide +kernel⟩, List.mem_of_getElem? (i := 31) (by decide +kernel), List.mem_of_getElem? (i := 701) (by decide +kernel), List.mem_of_getElem? (i := 702) (by decide +kernel)⟩
theorem lw_p9 : lw_okq (⟨"RailwayHouse$Reader", "readStatement", "()V"⟩, 9) := ⟨⟨by decide +kernel, by decide +kernel⟩, List.mem_of_getElem? (i := 31) (by decide +kernel), List.mem_of_getElem? (i := 705) (by decide +kernel), List.mem_of_getElem? (i := 706) (by decide +kernel)⟩
theorem lw_p10 : lw_okq (⟨"RailwayHouse$Reader", "isWord", "(Ljava/lang/String;)Z"⟩, 9) := ⟨⟨by decide +kernel, by decide +kernel⟩, List.mem_of_getElem? (i := 31) (by decide +kernel), List.mem_of_getElem? (i := 710) (by decide +kernel), List.mem_of_getElem? (i := 711) (by decide +kernel)⟩
theorem lw_p11 : lw_okq (⟨"RailwayHouse$Reader", "readSection", "(I)V"⟩, 9) := ⟨⟨by decide +kernel, by decide +kernel⟩, List.mem_of_getElem? (i := 31) (by decide +kernel), List.mem_of_getElem? (i := 762) (by decide +kernel), List.mem_of_getElem? (i := 763) (by decide +kernel)⟩
theorem lw_p12 : lw_okq (⟨"RailwayHouse$Reader", "readNumber", "(II)I"⟩, 9) := ⟨⟨by decide +kernel, by decide +kernel⟩, List.mem_of_getElem? (i := 31) (by decide +kernel), List.mem_of_getElem? (i := 766) (by decide +kernel), List.mem_of_getElem? (i := 767) (by decide +kernel)⟩
theorem lw_p13 : lw_okq (⟨"RailwayHouse$Reader", "readSemicolon", "()V"⟩, 9) := ⟨⟨by decide +kernel, by decide +kernel⟩, List.mem_of_getElem? (i := 31) (by decide +kernel), List.mem_of_getElem? (i := 770) (by decide +kernel), List.mem_of_getElem? (i := 771) (by decide +kernel)⟩
theorem lw_p14 : lw_okq (⟨"RailwayHouse$Reader", "readJoin", "()V"⟩, 9) := ⟨⟨by decide +kernel, by decide +kernel⟩, List.mem_of_getElem? (i := 31) (by decide +kernel), List.mem_of_getElem? (i := 780) (by decide +kernel), List.mem_of_getElem? (i := 781) (by decide +kernel)⟩
theorem lw_p15 : lw_okq (⟨"RailwayHouse$Reader", "readEnd", "(I)I"⟩, 9) := ⟨⟨by decide +kernel, by decide +kernel⟩, List.mem_of_getElem? (i := 31) (by decide +kernel), List.mem_of_getElem? (i := 784) (by decide +kernel), List.mem_of_getElem? (i := 785) (by decide +kernel)⟩
def lw_privs_1 : List (MethodName × Nat) := [(⟨"RailwayHouse", "beginYard", "()V"⟩, 12), (⟨"RailwayHouse$Vote", "beginChannels", "(I)V"⟩, 10), (⟨"RailwayHouse$Channel", "endRoute", "(I)V"⟩, 14), (⟨"RailwayHouse$Channel", "writeRow", "([II)V"⟩, 14), (⟨"RailwayHouse$Reader", "scan", "()V"⟩, 9), (⟨"RailwayHouse$Reader", "scanNumber", "()V"⟩, 9), (⟨"RailwayHouse$Reader", "fail", "(I)V"⟩, 9), (⟨"RailwayHouse$Reader", "scanWord", "()V"⟩, 9), (⟨"RailwayHouse$Reader", "checkWhole", "()V"⟩, 9), (⟨"RailwayHouse$Reader", "readStatement", "()V"⟩, 9), (⟨"RailwayHouse$Reader", "isWord", "(Ljava/lang/String;)Z"⟩, 9), (⟨"RailwayHouse$Reader", "readSection", "(I)V"⟩, 9), (⟨"RailwayHouse$Reader", "readNumber", "(II)I"⟩, 9), (⟨"RailwayHouse$Reader", "readSemicolon", "()V"⟩, 9), (⟨"RailwayHouse$Reader", "readJoin", "()V"⟩, 9), (⟨"RailwayHouse$Reader", "readEnd", "(I)I"⟩, 9)]
theorem lw_r1 : ∀ q ∈ lw_privs_1, lw_okq q := List.forall_mem_cons.mpr ⟨lw_p0, List.forall_mem_cons.mpr ⟨lw_p1, List.forall_mem_cons.mpr ⟨lw_p2, List.forall_mem_cons.mpr ⟨lw_p3, List.forall_mem_cons.mpr ⟨lw_p4, List.forall_mem_cons.mpr ⟨lw_p5, List.forall_mem_cons.mpr ⟨lw_p6, List.forall_mem_cons.mpr ⟨lw_p7, List.forall_mem_cons.mpr ⟨lw_p8, List.forall_mem_cons.mpr ⟨lw_p9, List.forall_mem_cons.mpr ⟨lw_p10, List.forall_mem_cons.mpr ⟨lw_p11, List.forall_mem_cons.mpr ⟨lw_p12, List.forall_mem_cons.mpr ⟨lw_p13, List.forall_mem_cons.mpr ⟨lw_p14, List.forall_mem_cons.mpr ⟨lw_p15, fun _ h => absurd h List.not_mem_nil⟩⟩⟩⟩⟩⟩⟩⟩⟩⟩⟩⟩⟩⟩⟩⟩
theorem lw_p16 : lw_okq (⟨"RailwayHouse$Reader", "readSignal", "()V"⟩, 9) := ⟨⟨by decide +kernel, by decide +kernel⟩, List.mem_of_getElem? (i := 31) (by decide +kernel), List.mem_of_getElem? (i := 858) (by decide +kernel), List.mem_of_getElem? (i := 859) (by decide +kernel)⟩
theorem lw_p17 : lw_okq (⟨"RailwayHouse$Reader", "readStop", "()V"⟩, 9) := ⟨⟨by decide +kernel, by decide +kernel⟩, List.mem_of_getElem? (i := 31) (by decide +kernel), List.mem_of_getElem? (i := 867) (by decide +kernel), List.mem_of_getElem? (i := 868) (by decide +kernel)⟩
theorem lw_p18 : lw_okq (⟨"RailwayHouse$Ways", "comeIn", "(II)V"⟩, 20) := ⟨⟨by decide +kernel, by decide +kernel⟩, List.mem_of_getElem? (i := 128) (by decide +kernel), List.mem_of_getElem? (i := 882) (by decide +kernel), List.mem_of_getElem? (i := 883) (by decide +kernel)⟩
theorem lw_p19 : lw_okq (⟨"RailwayHouse$Ways", "isOnWay", "(II)Z"⟩, 20) := ⟨⟨by decide +kernel, by decide +kernel⟩, List.mem_of_getElem? (i := 128) (by decide +kernel), List.mem_of_getElem? (i := 886) (by decide +kernel), List.mem_of_getElem? (i := 887) (by decide +kernel)⟩
theorem lw_p20 : lw_okq (⟨"RailwayHouse$Ways", "isInWay", "(II)Z"⟩, 20) := ⟨⟨by decide +kernel, by decide +kernel⟩, List.mem_of_getElem? (i := 128) (by decide +kernel), List.mem_of_getElem? (i := 890) (by decide +kernel), List.mem_of_getElem? (i := 891) (by decide +kernel)⟩
theorem lw_p21 : lw_okq (⟨"RailwayHouse$Ways", "goOut", "(II)V"⟩, 20) := ⟨⟨by decide +kernel, by decide +kernel⟩, List.mem_of_getElem? (i := 128) (by decide +kernel), List.mem_of_getElem? (i := 895) (by decide +kernel), List.mem_of_getElem? (i := 896) (by decide +kernel)⟩
theorem lw_p22 : lw_okq (⟨"RailwayHouse$Ways", "finish", "(I)V"⟩, 20) := ⟨⟨by decide +kernel, by decide +kernel⟩, List.mem_of_getElem? (i := 128) (by decide +kernel), List.mem_of_getElem? (i := 899) (by decide +kernel), List.mem_of_getElem? (i := 900) (by decide +kernel)⟩
theorem lw_p23 : lw_okq (⟨"RailwayHouse$Ways", "findNeeds", "(II)V"⟩, 20) := ⟨⟨by decide +kernel, by decide +kernel⟩, List.mem_of_getElem? (i := 128) (by decide +kernel), List.mem_of_getElem? (i := 903) (by decide +kernel), List.mem_of_getElem? (i := 904) (by decide +kernel)⟩
theorem lw_p24 : lw_okq (⟨"RailwayHouse$Ways", "lieOnWay", "(I)I"⟩, 20) := ⟨⟨by decide +kernel, by decide +kernel⟩, List.mem_of_getElem? (i := 128) (by decide +kernel), List.mem_of_getElem? (i := 907) (by decide +kernel), List.mem_of_getElem? (i := 908) (by decide +kernel)⟩
theorem lw_p25 : lw_okq (⟨"RailwayHouse$Ways", "want", "(III)V"⟩, 20) := ⟨⟨by decide +kernel, by decide +kernel⟩, List.mem_of_getElem? (i := 128) (by decide +kernel), List.mem_of_getElem? (i := 912) (by decide +kernel), List.mem_of_getElem? (i := 913) (by decide +kernel)⟩
theorem lw_p26 : lw_okq (⟨"RailwayHouse$Ways", "wantFlank", "(II)V"⟩, 20) := ⟨⟨by decide +kernel, by decide +kernel⟩, List.mem_of_getElem? (i := 128) (by decide +kernel), List.mem_of_getElem? (i := 916) (by decide +kernel), List.mem_of_getElem? (i := 917) (by decide +kernel)⟩
theorem lw_p27 : lw_okq (⟨"RailwayHouse$Ways", "keepNeeds", "()V"⟩, 20) := ⟨⟨by decide +kernel, by decide +kernel⟩, List.mem_of_getElem? (i := 128) (by decide +kernel), List.mem_of_getElem? (i := 920) (by decide +kernel), List.mem_of_getElem? (i := 921) (by decide +kernel)⟩
theorem lw_p28 : lw_okq (⟨"RailwayHouse$Ways", "keepHeld", "(I)V"⟩, 20) := ⟨⟨by decide +kernel, by decide +kernel⟩, List.mem_of_getElem? (i := 128) (by decide +kernel), List.mem_of_getElem? (i := 924) (by decide +kernel), List.mem_of_getElem? (i := 925) (by decide +kernel)⟩
theorem lw_p29 : lw_okq (⟨"RailwayHouse$Ways", "wantedFor", "(II)I"⟩, 20) := ⟨⟨by decide +kernel, by decide +kernel⟩, List.mem_of_getElem? (i := 128) (by decide +kernel), List.mem_of_getElem? (i := 928) (by decide +kernel), List.mem_of_getElem? (i := 929) (by decide +kernel)⟩
theorem lw_p30 : lw_okq (⟨"RailwayHouse$Channel", "obeysSet", "(I)Z"⟩, 14) := ⟨⟨by decide +kernel, by decide +kernel⟩, List.mem_of_getElem? (i := 261) (by decide +kernel), List.mem_of_getElem? (i := 1007) (by decide +kernel), List.mem_of_getElem? (i := 1008) (by decide +kernel)⟩
theorem lw_p31 : lw_okq (⟨"RailwayHouse$Channel", "occupied", "()I"⟩, 14) := ⟨⟨by decide +kernel, by decide +kernel⟩, List.mem_of_getElem? (i := 261) (by decide +kernel), List.mem_of_getElem? (i := 1015) (by decide +kernel), List.mem_of_getElem? (i := 1016) (by decide +kernel)⟩
def lw_privs_2 : List (MethodName × Nat) := [(⟨"RailwayHouse$Reader", "readSignal", "()V"⟩, 9), (⟨"RailwayHouse$Reader", "readStop", "()V"⟩, 9), (⟨"RailwayHouse$Ways", "comeIn", "(II)V"⟩, 20), (⟨"RailwayHouse$Ways", "isOnWay", "(II)Z"⟩, 20), (⟨"RailwayHouse$Ways", "isInWay", "(II)Z"⟩, 20), (⟨"RailwayHouse$Ways", "goOut", "(II)V"⟩, 20), (⟨"RailwayHouse$Ways", "finish", "(I)V"⟩, 20), (⟨"RailwayHouse$Ways", "findNeeds", "(II)V"⟩, 20), (⟨"RailwayHouse$Ways", "lieOnWay", "(I)I"⟩, 20), (⟨"RailwayHouse$Ways", "want", "(III)V"⟩, 20), (⟨"RailwayHouse$Ways", "wantFlank", "(II)V"⟩, 20), (⟨"RailwayHouse$Ways", "keepNeeds", "()V"⟩, 20), (⟨"RailwayHouse$Ways", "keepHeld", "(I)V"⟩, 20), (⟨"RailwayHouse$Ways", "wantedFor", "(II)I"⟩, 20), (⟨"RailwayHouse$Channel", "obeysSet", "(I)Z"⟩, 14), (⟨"RailwayHouse$Channel", "occupied", "()I"⟩, 14)]
theorem lw_r2 : ∀ q ∈ lw_privs_2, lw_okq q := List.forall_mem_cons.mpr ⟨lw_p16, List.forall_mem_cons.mpr ⟨lw_p17, List.forall_mem_cons.mpr ⟨lw_p18, List.forall_mem_cons.mpr ⟨lw_p19, List.forall_mem_cons.mpr ⟨lw_p20, List.forall_mem_cons.mpr ⟨lw_p21, List.forall_mem_cons.mpr ⟨lw_p22, List.forall_mem_cons.mpr ⟨lw_p23, List.forall_mem_cons.mpr ⟨lw_p24, List.forall_mem_cons.mpr ⟨lw_p25, List.forall_mem_cons.mpr ⟨lw_p26, List.forall_mem_cons.mpr ⟨lw_p27, List.forall_mem_cons.mpr ⟨lw_p28, List.forall_mem_cons.mpr ⟨lw_p29, List.forall_mem_cons.mpr ⟨lw_p30, List.forall_mem_cons.mpr ⟨lw_p31, fun _ h => absurd h List.not_mem_nil⟩⟩⟩⟩⟩⟩⟩⟩⟩⟩⟩⟩⟩⟩⟩⟩
theorem lw_p32 : lw_okq (⟨"RailwayHouse$Channel", "isInTheWay", "(I)Z"⟩, 14) := ⟨⟨by decide +kernel, by decide +kernel⟩, List.mem_of_getElem? (i := 261) (by decide +kernel), List.mem_of_getElem? (i := 1019) (by decide +kernel), List.mem_of_getElem? (i := 1020) (by decide +kernel)⟩
theorem lw_p33 : lw_okq (⟨"RailwayHouse$Channel", "canHavePoints", "(I)Z"⟩, 14) := ⟨⟨by decide +kernel, by decide +kernel⟩, List.mem_of_getElem? (i := 261) (by decide +kernel), List.mem_of_getElem? (i := 1032) (by decide +kernel), List.mem_of_getElem? (i := 1033) (by decide +kernel)⟩
theorem lw_p34 : lw_okq (⟨"RailwayHouse$Channel", "enterPhase", "(III)V"⟩, 14) := ⟨⟨by decide +kernel, by decide +kernel⟩, List.mem_of_getElem? (i := 261) (by decide +kernel), List.mem_of_getElem? (i := 1049) (by decide +kernel), List.mem_of_getElem? (i := 1050) (by decide +kernel)⟩
theorem lw_p35 : lw_okq (⟨"RailwayHouse$Channel", "obeysCancel", "(I)Z"⟩, 14) := ⟨⟨by decide +kernel, by decide +kernel⟩, List.mem_of_getElem? (i := 261) (by decide +kernel), List.mem_of_getElem? (i := 1053) (by decide +kernel), List.mem_of_getElem? (i := 1054) (by decide +kernel)⟩
theorem lw_p36 : lw_okq (⟨"RailwayHouse$Channel", "obeysRelease", "(I)Z"⟩, 14) := ⟨⟨by decide +kernel, by decide +kernel⟩, List.mem_of_getElem? (i := 261) (by decide +kernel), List.mem_of_getElem? (i := 1057) (by decide +kernel), List.mem_of_getElem? (i := 1058) (by decide +kernel)⟩
theorem lw_p37 : lw_okq (⟨"RailwayHouse$Channel", "obeysMove", "(II)Z"⟩, 14) := ⟨⟨by decide +kernel, by decide +kernel⟩, List.mem_of_getElem? (i := 261) (by decide +kernel), List.mem_of_getElem? (i := 1061) (by decide +kernel), List.mem_of_getElem? (i := 1062) (by decide +kernel)⟩
theorem lw_p38 : lw_okq (⟨"RailwayHouse$Vote", "voters", "()I"⟩, 10) := ⟨⟨by decide +kernel, by decide +kernel⟩, List.mem_of_getElem? (i := 254) (by decide +kernel), List.mem_of_getElem? (i := 1069) (by decide +kernel), List.mem_of_getElem? (i := 1070) (by decide +kernel)⟩
theorem lw_p39 : lw_okq (⟨"RailwayHouse$Vote", "goDown", "()V"⟩, 10) := ⟨⟨by decide +kernel, by decide +kernel⟩, List.mem_of_getElem? (i := 254) (by decide +kernel), List.mem_of_getElem? (i := 1073) (by decide +kernel), List.mem_of_getElem? (i := 1074) (by decide +kernel)⟩
theorem lw_p40 : lw_okq (⟨"RailwayHouse", "isReported", "(II)Z"⟩, 12) := ⟨⟨by decide +kernel, by decide +kernel⟩, List.mem_of_getElem? (i := 23) (by decide +kernel), List.mem_of_getElem? (i := 1118) (by decide +kernel), List.mem_of_getElem? (i := 1119) (by decide +kernel)⟩
theorem lw_p41 : lw_okq (⟨"RailwayHouse$Yard", "presentTrain", "(I)LRailwayHouse$Train;"⟩, 13) := ⟨⟨by decide +kernel, by decide +kernel⟩, List.mem_of_getElem? (i := 352) (by decide +kernel), List.mem_of_getElem? (i := 1155) (by decide +kernel), List.mem_of_getElem? (i := 1156) (by decide +kernel)⟩
theorem lw_p42 : lw_okq (⟨"RailwayHouse", "putNumber", "(II)V"⟩, 12) := ⟨⟨by decide +kernel, by decide +kernel⟩, List.mem_of_getElem? (i := 23) (by decide +kernel), List.mem_of_getElem? (i := 1292) (by decide +kernel), List.mem_of_getElem? (i := 1293) (by decide +kernel)⟩
theorem lw_p43 : lw_okq (⟨"RailwayHouse$Yard", "survey", "(LRailwayHouse$Train;I)V"⟩, 13) := ⟨⟨by decide +kernel, by decide +kernel⟩, List.mem_of_getElem? (i := 352) (by decide +kernel), List.mem_of_getElem? (i := 1324) (by decide +kernel), List.mem_of_getElem? (i := 1325) (by decide +kernel)⟩
theorem lw_p44 : lw_okq (⟨"RailwayHouse$Yard", "addPart", "(II)I"⟩, 13) := ⟨⟨by decide +kernel, by decide +kernel⟩, List.mem_of_getElem? (i := 352) (by decide +kernel), List.mem_of_getElem? (i := 1328) (by decide +kernel), List.mem_of_getElem? (i := 1329) (by decide +kernel)⟩
theorem lw_p45 : lw_okq (⟨"RailwayHouse$Yard", "surveyAhead", "(III)I"⟩, 13) := ⟨⟨by decide +kernel, by decide +kernel⟩, List.mem_of_getElem? (i := 352) (by decide +kernel), List.mem_of_getElem? (i := 1332) (by decide +kernel), List.mem_of_getElem? (i := 1333) (by decide +kernel)⟩
theorem lw_p46 : lw_okq (⟨"RailwayHouse$Yard", "isStopped", "(II)Z"⟩, 13) := ⟨⟨by decide +kernel, by decide +kernel⟩, List.mem_of_getElem? (i := 352) (by decide +kernel), List.mem_of_getElem? (i := 1336) (by decide +kernel), List.mem_of_getElem? (i := 1337) (by decide +kernel)⟩
theorem lw_p47 : lw_okq (⟨"RailwayHouse", "passOneTick", "()V"⟩, 12) := ⟨⟨by decide +kernel, by decide +kernel⟩, List.mem_of_getElem? (i := 23) (by decide +kernel), List.mem_of_getElem? (i := 1348) (by decide +kernel), List.mem_of_getElem? (i := 1349) (by decide +kernel)⟩
def lw_privs_3 : List (MethodName × Nat) := [(⟨"RailwayHouse$Channel", "isInTheWay", "(I)Z"⟩, 14), (⟨"RailwayHouse$Channel", "canHavePoints", "(I)Z"⟩, 14), (⟨"RailwayHouse$Channel", "enterPhase", "(III)V"⟩, 14), (⟨"RailwayHouse$Channel", "obeysCancel", "(I)Z"⟩, 14), (⟨"RailwayHouse$Channel", "obeysRelease", "(I)Z"⟩, 14), (⟨"RailwayHouse$Channel", "obeysMove", "(II)Z"⟩, 14), (⟨"RailwayHouse$Vote", "voters", "()I"⟩, 10), (⟨"RailwayHouse$Vote", "goDown", "()V"⟩, 10), (⟨"RailwayHouse", "isReported", "(II)Z"⟩, 12), (⟨"RailwayHouse$Yard", "presentTrain", "(I)LRailwayHouse$Train;"⟩, 13), (⟨"RailwayHouse", "putNumber", "(II)V"⟩, 12), (⟨"RailwayHouse$Yard", "survey", "(LRailwayHouse$Train;I)V"⟩, 13), (⟨"RailwayHouse$Yard", "addPart", "(II)I"⟩, 13), (⟨"RailwayHouse$Yard", "surveyAhead", "(III)I"⟩, 13), (⟨"RailwayHouse$Yard", "isStopped", "(II)Z"⟩, 13), (⟨"RailwayHouse", "passOneTick", "()V"⟩, 12)]
theorem lw_r3 : ∀ q ∈ lw_privs_3, lw_okq q := List.forall_mem_cons.mpr ⟨lw_p32, List.forall_mem_cons.mpr ⟨lw_p33, List.forall_mem_cons.mpr ⟨lw_p34, List.forall_mem_cons.mpr ⟨lw_p35, List.forall_mem_cons.mpr ⟨lw_p36, List.forall_mem_cons.mpr ⟨lw_p37, List.forall_mem_cons.mpr ⟨lw_p38, List.forall_mem_cons.mpr ⟨lw_p39, List.forall_mem_cons.mpr ⟨lw_p40, List.forall_mem_cons.mpr ⟨lw_p41, List.forall_mem_cons.mpr ⟨lw_p42, List.forall_mem_cons.mpr ⟨lw_p43, List.forall_mem_cons.mpr ⟨lw_p44, List.forall_mem_cons.mpr ⟨lw_p45, List.forall_mem_cons.mpr ⟨lw_p46, List.forall_mem_cons.mpr ⟨lw_p47, fun _ h => absurd h List.not_mem_nil⟩⟩⟩⟩⟩⟩⟩⟩⟩⟩⟩⟩⟩⟩⟩⟩
theorem lw_p48 : lw_okq (⟨"RailwayHouse$Yard", "pointGoesOn", "(II)V"⟩, 13) := ⟨⟨by decide +kernel, by decide +kernel⟩, List.mem_of_getElem? (i := 352) (by decide +kernel), List.mem_of_getElem? (i := 1356) (by decide +kernel), List.mem_of_getElem? (i := 1357) (by decide +kernel)⟩
theorem lw_p49 : lw_okq (⟨"RailwayHouse$Yard", "moveTrain", "(LRailwayHouse$Train;I)V"⟩, 13) := ⟨⟨by decide +kernel, by decide +kernel⟩, List.mem_of_getElem? (i := 352) (by decide +kernel), List.mem_of_getElem? (i := 1365) (by decide +kernel), List.mem_of_getElem? (i := 1366) (by decide +kernel)⟩
theorem lw_p50 : lw_okq (⟨"RailwayHouse$Yard", "nextSpeed", "(LRailwayHouse$Train;)I"⟩, 13) := ⟨⟨by decide +kernel, by decide +kernel⟩, List.mem_of_getElem? (i := 352) (by decide +kernel), List.mem_of_getElem? (i := 1369) (by decide +kernel), List.mem_of_getElem? (i := 1370) (by decide +kernel)⟩
theorem lw_p51 : lw_okq (⟨"RailwayHouse$Yard", "isSafe", "(LRailwayHouse$Train;I)Z"⟩, 13) := ⟨⟨by decide +kernel, by decide +kernel⟩, List.mem_of_getElem? (i := 352) (by decide +kernel), List.mem_of_getElem? (i := 1374) (by decide +kernel), List.mem_of_getElem? (i := 1375) (by decide +kernel)⟩
theorem lw_p52 : lw_okq (⟨"RailwayHouse$Yard", "keepsLimits", "(III)Z"⟩, 13) := ⟨⟨by decide +kernel, by decide +kernel⟩, List.mem_of_getElem? (i := 352) (by decide +kernel), List.mem_of_getElem? (i := 1378) (by decide +kernel), List.mem_of_getElem? (i := 1379) (by decide +kernel)⟩
theorem lw_p53 : lw_okq (⟨"RailwayHouse$Yard", "goOn", "(LRailwayHouse$Train;I)V"⟩, 13) := ⟨⟨by decide +kernel, by decide +kernel⟩, List.mem_of_getElem? (i := 352) (by decide +kernel), List.mem_of_getElem? (i := 1382) (by decide +kernel), List.mem_of_getElem? (i := 1383) (by decide +kernel)⟩
theorem lw_p54 : lw_okq (⟨"RailwayHouse$Yard", "crosses", "(LRailwayHouse$Train;I)Z"⟩, 13) := ⟨⟨by decide +kernel, by decide +kernel⟩, List.mem_of_getElem? (i := 352) (by decide +kernel), List.mem_of_getElem? (i := 1386) (by decide +kernel), List.mem_of_getElem? (i := 1387) (by decide +kernel)⟩
theorem lw_p55 : lw_okq (⟨"RailwayHouse$Channel", "stepRoute", "(I)V"⟩, 14) := ⟨⟨by decide +kernel, by decide +kernel⟩, List.mem_of_getElem? (i := 261) (by decide +kernel), List.mem_of_getElem? (i := 1420) (by decide +kernel), List.mem_of_getElem? (i := 1421) (by decide +kernel)⟩
theorem lw_p56 : lw_okq (⟨"RailwayHouse$Channel", "isFirstOccupied", "(I)Z"⟩, 14) := ⟨⟨by decide +kernel, by decide +kernel⟩, List.mem_of_getElem? (i := 261) (by decide +kernel), List.mem_of_getElem? (i := 1424) (by decide +kernel), List.mem_of_getElem? (i := 1425) (by decide +kernel)⟩
theorem lw_p57 : lw_okq (⟨"RailwayHouse$Channel", "stepCalled", "(I)V"⟩, 14) := ⟨⟨by decide +kernel, by decide +kernel⟩, List.mem_of_getElem? (i := 261) (by decide +kernel), List.mem_of_getElem? (i := 1432) (by decide +kernel), List.mem_of_getElem? (i := 1433) (by decide +kernel)⟩
theorem lw_p58 : lw_okq (⟨"RailwayHouse$Channel", "isWhole", "(I)Z"⟩, 14) := ⟨⟨by decide +kernel, by decide +kernel⟩, List.mem_of_getElem? (i := 261) (by decide +kernel), List.mem_of_getElem? (i := 1436) (by decide +kernel), List.mem_of_getElem? (i := 1437) (by decide +kernel)⟩
theorem lw_p59 : lw_okq (⟨"RailwayHouse$Channel", "stepInUse", "(I)V"⟩, 14) := ⟨⟨by decide +kernel, by decide +kernel⟩, List.mem_of_getElem? (i := 261) (by decide +kernel), List.mem_of_getElem? (i := 1440) (by decide +kernel), List.mem_of_getElem? (i := 1441) (by decide +kernel)⟩
theorem lw_p60 : lw_okq (⟨"RailwayHouse$Channel", "mayGiveBack", "(III)Z"⟩, 14) := ⟨⟨by decide +kernel, by decide +kernel⟩, List.mem_of_getElem? (i := 261) (by decide +kernel), List.mem_of_getElem? (i := 1444) (by decide +kernel), List.mem_of_getElem? (i := 1445) (by decide +kernel)⟩
theorem lw_p61 : lw_okq (⟨"RailwayHouse$Channel", "countDown", "(I)V"⟩, 14) := ⟨⟨by decide +kernel, by decide +kernel⟩, List.mem_of_getElem? (i := 261) (by decide +kernel), List.mem_of_getElem? (i := 1448) (by decide +kernel), List.mem_of_getElem? (i := 1449) (by decide +kernel)⟩
theorem lw_p62 : lw_okq (⟨"RailwayHouse$Channel", "clearSignals", "()I"⟩, 14) := ⟨⟨by decide +kernel, by decide +kernel⟩, List.mem_of_getElem? (i := 261) (by decide +kernel), List.mem_of_getElem? (i := 1452) (by decide +kernel), List.mem_of_getElem? (i := 1453) (by decide +kernel)⟩
theorem lw_p63 : lw_okq (⟨"RailwayHouse$Vote", "voteRows", "()V"⟩, 10) := ⟨⟨by decide +kernel, by decide +kernel⟩, List.mem_of_getElem? (i := 254) (by decide +kernel), List.mem_of_getElem? (i := 1456) (by decide +kernel), List.mem_of_getElem? (i := 1457) (by decide +kernel)⟩
def lw_privs_4 : List (MethodName × Nat) := [(⟨"RailwayHouse$Yard", "pointGoesOn", "(II)V"⟩, 13), (⟨"RailwayHouse$Yard", "moveTrain", "(LRailwayHouse$Train;I)V"⟩, 13), (⟨"RailwayHouse$Yard", "nextSpeed", "(LRailwayHouse$Train;)I"⟩, 13), (⟨"RailwayHouse$Yard", "isSafe", "(LRailwayHouse$Train;I)Z"⟩, 13), (⟨"RailwayHouse$Yard", "keepsLimits", "(III)Z"⟩, 13), (⟨"RailwayHouse$Yard", "goOn", "(LRailwayHouse$Train;I)V"⟩, 13), (⟨"RailwayHouse$Yard", "crosses", "(LRailwayHouse$Train;I)Z"⟩, 13), (⟨"RailwayHouse$Channel", "stepRoute", "(I)V"⟩, 14), (⟨"RailwayHouse$Channel", "isFirstOccupied", "(I)Z"⟩, 14), (⟨"RailwayHouse$Channel", "stepCalled", "(I)V"⟩, 14), (⟨"RailwayHouse$Channel", "isWhole", "(I)Z"⟩, 14), (⟨"RailwayHouse$Channel", "stepInUse", "(I)V"⟩, 14), (⟨"RailwayHouse$Channel", "mayGiveBack", "(III)Z"⟩, 14), (⟨"RailwayHouse$Channel", "countDown", "(I)V"⟩, 14), (⟨"RailwayHouse$Channel", "clearSignals", "()I"⟩, 14), (⟨"RailwayHouse$Vote", "voteRows", "()V"⟩, 10)]
theorem lw_r4 : ∀ q ∈ lw_privs_4, lw_okq q := List.forall_mem_cons.mpr ⟨lw_p48, List.forall_mem_cons.mpr ⟨lw_p49, List.forall_mem_cons.mpr ⟨lw_p50, List.forall_mem_cons.mpr ⟨lw_p51, List.forall_mem_cons.mpr ⟨lw_p52, List.forall_mem_cons.mpr ⟨lw_p53, List.forall_mem_cons.mpr ⟨lw_p54, List.forall_mem_cons.mpr ⟨lw_p55, List.forall_mem_cons.mpr ⟨lw_p56, List.forall_mem_cons.mpr ⟨lw_p57, List.forall_mem_cons.mpr ⟨lw_p58, List.forall_mem_cons.mpr ⟨lw_p59, List.forall_mem_cons.mpr ⟨lw_p60, List.forall_mem_cons.mpr ⟨lw_p61, List.forall_mem_cons.mpr ⟨lw_p62, List.forall_mem_cons.mpr ⟨lw_p63, fun _ h => absurd h List.not_mem_nil⟩⟩⟩⟩⟩⟩⟩⟩⟩⟩⟩⟩⟩⟩⟩⟩
theorem lw_p64 : lw_okq (⟨"RailwayHouse$Channel", "rowForVote", "()[I"⟩, 14) := ⟨⟨by decide +kernel, by decide +kernel⟩, List.mem_of_getElem? (i := 261) (by decide +kernel), List.mem_of_getElem? (i := 1464) (by decide +kernel), List.mem_of_getElem? (i := 1465) (by decide +kernel)⟩
theorem lw_p65 : lw_okq (⟨"RailwayHouse", "stepBerths", "()V"⟩, 12) := ⟨⟨by decide +kernel, by decide +kernel⟩, List.mem_of_getElem? (i := 23) (by decide +kernel), List.mem_of_getElem? (i := 1476) (by decide +kernel), List.mem_of_getElem? (i := 1477) (by decide +kernel)⟩
theorem lw_p66 : lw_okq (⟨"RailwayHouse", "stepNumber", "(II)V"⟩, 12) := ⟨⟨by decide +kernel, by decide +kernel⟩, List.mem_of_getElem? (i := 23) (by decide +kernel), List.mem_of_getElem? (i := 1484) (by decide +kernel), List.mem_of_getElem? (i := 1485) (by decide +kernel)⟩
theorem lw_p67 : lw_okq (⟨"RailwayHouse$Vote", "isShownWithoutRoute", "(LRailwayHouse$Channel;)Z"⟩, 10) := ⟨⟨by decide +kernel, by decide +kernel⟩, List.mem_of_getElem? (i := 254) (by decide +kernel), List.mem_of_getElem? (i := 1508) (by decide +kernel), List.mem_of_getElem? (i := 1509) (by decide +kernel)⟩
theorem lw_p68 : lw_okq (⟨"RailwayHouse$Vote", "isClearThoughUnsafe", "(LRailwayHouse$Channel;)Z"⟩, 10) := ⟨⟨by decide +kernel, by decide +kernel⟩, List.mem_of_getElem? (i := 254) (by decide +kernel), List.mem_of_getElem? (i := 1517) (by decide +kernel), List.mem_of_getElem? (i := 1518) (by decide +kernel)⟩
theorem lw_p69 : lw_okq (⟨"RailwayHouse$Journeys", "beginLevel", "()V"⟩, 10) := ⟨⟨by decide +kernel, by decide +kernel⟩, List.mem_of_getElem? (i := 479) (by decide +kernel), List.mem_of_getElem? (i := 1599) (by decide +kernel), List.mem_of_getElem? (i := 1600) (by decide +kernel)⟩
theorem lw_p70 : lw_okq (⟨"RailwayHouse$Journeys", "beginAt", "(IIII)V"⟩, 10) := ⟨⟨by decide +kernel, by decide +kernel⟩, List.mem_of_getElem? (i := 479) (by decide +kernel), List.mem_of_getElem? (i := 1603) (by decide +kernel), List.mem_of_getElem? (i := 1604) (by decide +kernel)⟩
theorem lw_p71 : lw_okq (⟨"RailwayHouse$Journeys", "ride", "(IIIJ)V"⟩, 10) := ⟨⟨by decide +kernel, by decide +kernel⟩, List.mem_of_getElem? (i := 479) (by decide +kernel), List.mem_of_getElem? (i := 1607) (by decide +kernel), List.mem_of_getElem? (i := 1608) (by decide +kernel)⟩
theorem lw_p72 : lw_okq (⟨"RailwayHouse$Journeys", "changeInto", "(II)V"⟩, 10) := ⟨⟨by decide +kernel, by decide +kernel⟩, List.mem_of_getElem? (i := 479) (by decide +kernel), List.mem_of_getElem? (i := 1621) (by decide +kernel), List.mem_of_getElem? (i := 1622) (by decide +kernel)⟩
theorem lw_p73 : lw_okq (⟨"RailwayHouse$Journeys", "harvest", "(II)V"⟩, 10) := ⟨⟨by decide +kernel, by decide +kernel⟩, List.mem_of_getElem? (i := 479) (by decide +kernel), List.mem_of_getElem? (i := 1625) (by decide +kernel), List.mem_of_getElem? (i := 1626) (by decide +kernel)⟩
theorem lw_p74 : lw_okq (⟨"RailwayHouse$Journeys", "offer", "(IIIJ)V"⟩, 10) := ⟨⟨by decide +kernel, by decide +kernel⟩, List.mem_of_getElem? (i := 479) (by decide +kernel), List.mem_of_getElem? (i := 1629) (by decide +kernel), List.mem_of_getElem? (i := 1630) (by decide +kernel)⟩
theorem lw_p75 : lw_okq (⟨"RailwayHouse$Journeys", "copyOption", "(II)V"⟩, 10) := ⟨⟨by decide +kernel, by decide +kernel⟩, List.mem_of_getElem? (i := 479) (by decide +kernel), List.mem_of_getElem? (i := 1633) (by decide +kernel), List.mem_of_getElem? (i := 1634) (by decide +kernel)⟩
theorem lw_p76 : lw_okq (⟨"RailwayHouse$Journeys", "isAhead", "(IIII)Z"⟩, 10) := ⟨⟨by decide +kernel, by decide +kernel⟩, List.mem_of_getElem? (i := 479) (by decide +kernel), List.mem_of_getElem? (i := 1637) (by decide +kernel), List.mem_of_getElem? (i := 1638) (by decide +kernel)⟩
theorem lw_p77 : lw_okq (⟨"RailwayHouse$Line", "tryAll", "(III)V"⟩, 13) := ⟨⟨by decide +kernel, by decide +kernel⟩, List.mem_of_getElem? (i := 521) (by decide +kernel), List.mem_of_getElem? (i := 1714) (by decide +kernel), List.mem_of_getElem? (i := 1715) (by decide +kernel)⟩
theorem lw_p78 : lw_okq (⟨"RailwayHouse$Line", "keepBest", "(I)V"⟩, 13) := ⟨⟨by decide +kernel, by decide +kernel⟩, List.mem_of_getElem? (i := 521) (by decide +kernel), List.mem_of_getElem? (i := 1718) (by decide +kernel), List.mem_of_getElem? (i := 1719) (by decide +kernel)⟩
theorem lw_p79 : lw_okq (⟨"RailwayHouse$Line", "beginOf", "(II)I"⟩, 13) := ⟨⟨by decide +kernel, by decide +kernel⟩, List.mem_of_getElem? (i := 521) (by decide +kernel), List.mem_of_getElem? (i := 1723) (by decide +kernel), List.mem_of_getElem? (i := 1724) (by decide +kernel)⟩
def lw_privs_5 : List (MethodName × Nat) := [(⟨"RailwayHouse$Channel", "rowForVote", "()[I"⟩, 14), (⟨"RailwayHouse", "stepBerths", "()V"⟩, 12), (⟨"RailwayHouse", "stepNumber", "(II)V"⟩, 12), (⟨"RailwayHouse$Vote", "isShownWithoutRoute", "(LRailwayHouse$Channel;)Z"⟩, 10), (⟨"RailwayHouse$Vote", "isClearThoughUnsafe", "(LRailwayHouse$Channel;)Z"⟩, 10), (⟨"RailwayHouse$Journeys", "beginLevel", "()V"⟩, 10), (⟨"RailwayHouse$Journeys", "beginAt", "(IIII)V"⟩, 10), (⟨"RailwayHouse$Journeys", "ride", "(IIIJ)V"⟩, 10), (⟨"RailwayHouse$Journeys", "changeInto", "(II)V"⟩, 10), (⟨"RailwayHouse$Journeys", "harvest", "(II)V"⟩, 10), (⟨"RailwayHouse$Journeys", "offer", "(IIIJ)V"⟩, 10), (⟨"RailwayHouse$Journeys", "copyOption", "(II)V"⟩, 10), (⟨"RailwayHouse$Journeys", "isAhead", "(IIII)Z"⟩, 10), (⟨"RailwayHouse$Line", "tryAll", "(III)V"⟩, 13), (⟨"RailwayHouse$Line", "keepBest", "(I)V"⟩, 13), (⟨"RailwayHouse$Line", "beginOf", "(II)I"⟩, 13)]
theorem lw_r5 : ∀ q ∈ lw_privs_5, lw_okq q := List.forall_mem_cons.mpr ⟨lw_p64, List.forall_mem_cons.mpr ⟨lw_p65, List.forall_mem_cons.mpr ⟨lw_p66, List.forall_mem_cons.mpr ⟨lw_p67, List.forall_mem_cons.mpr ⟨lw_p68, List.forall_mem_cons.mpr ⟨lw_p69, List.forall_mem_cons.mpr ⟨lw_p70, List.forall_mem_cons.mpr ⟨lw_p71, List.forall_mem_cons.mpr ⟨lw_p72, List.forall_mem_cons.mpr ⟨lw_p73, List.forall_mem_cons.mpr ⟨lw_p74, List.forall_mem_cons.mpr ⟨lw_p75, List.forall_mem_cons.mpr ⟨lw_p76, List.forall_mem_cons.mpr ⟨lw_p77, List.forall_mem_cons.mpr ⟨lw_p78, List.forall_mem_cons.mpr ⟨lw_p79, fun _ h => absurd h List.not_mem_nil⟩⟩⟩⟩⟩⟩⟩⟩⟩⟩⟩⟩⟩⟩⟩⟩
theorem lw_p80 : lw_okq (⟨"RailwayHouseModel", "beginAll", "()V"⟩, 146) := ⟨⟨by decide +kernel, by decide +kernel⟩, List.mem_of_getElem? (i := 1750) (by decide +kernel), List.mem_of_getElem? (i := 1756) (by decide +kernel), List.mem_of_getElem? (i := 1757) (by decide +kernel)⟩
theorem lw_p81 : lw_okq (⟨"RailwayHouseModel", "beginHouse", "()V"⟩, 146) := ⟨⟨by decide +kernel, by decide +kernel⟩, List.mem_of_getElem? (i := 1750) (by decide +kernel), List.mem_of_getElem? (i := 1760) (by decide +kernel), List.mem_of_getElem? (i := 1761) (by decide +kernel)⟩
theorem lw_p82 : lw_okq (⟨"RailwayHouseModel", "freshChannels", "(I)V"⟩, 146) := ⟨⟨by decide +kernel, by decide +kernel⟩, List.mem_of_getElem? (i := 1750) (by decide +kernel), List.mem_of_getElem? (i := 1764) (by decide +kernel), List.mem_of_getElem? (i := 1765) (by decide +kernel)⟩
theorem lw_p83 : lw_okq (⟨"RailwayHouseModel", "freshChannel", "(II)V"⟩, 146) := ⟨⟨by decide +kernel, by decide +kernel⟩, List.mem_of_getElem? (i := 1750) (by decide +kernel), List.mem_of_getElem? (i := 1768) (by decide +kernel), List.mem_of_getElem? (i := 1769) (by decide +kernel)⟩
theorem lw_p84 : lw_okq (⟨"RailwayHouseModel", "none", "(I)V"⟩, 146) := ⟨⟨by decide +kernel, by decide +kernel⟩, List.mem_of_getElem? (i := 1750) (by decide +kernel), List.mem_of_getElem? (i := 1775) (by decide +kernel), List.mem_of_getElem? (i := 1776) (by decide +kernel)⟩
theorem lw_p85 : lw_okq (⟨"RailwayHouseModel", "layRow", "(I)V"⟩, 146) := ⟨⟨by decide +kernel, by decide +kernel⟩, List.mem_of_getElem? (i := 1750) (by decide +kernel), List.mem_of_getElem? (i := 1779) (by decide +kernel), List.mem_of_getElem? (i := 1780) (by decide +kernel)⟩
theorem lw_p86 : lw_okq (⟨"RailwayHouseModel", "routeNow", "(I)I"⟩, 146) := ⟨⟨by decide +kernel, by decide +kernel⟩, List.mem_of_getElem? (i := 1750) (by decide +kernel), List.mem_of_getElem? (i := 1783) (by decide +kernel), List.mem_of_getElem? (i := 1784) (by decide +kernel)⟩
theorem lw_p87 : lw_okq (⟨"RailwayHouseModel", "noReports", "()V"⟩, 146) := ⟨⟨by decide +kernel, by decide +kernel⟩, List.mem_of_getElem? (i := 1750) (by decide +kernel), List.mem_of_getElem? (i := 1787) (by decide +kernel), List.mem_of_getElem? (i := 1788) (by decide +kernel)⟩
theorem lw_p88 : lw_okq (⟨"RailwayHouseModel", "readLayout", "()Z"⟩, 146) := ⟨⟨by decide +kernel, by decide +kernel⟩, List.mem_of_getElem? (i := 1750) (by decide +kernel), List.mem_of_getElem? (i := 2245) (by decide +kernel), List.mem_of_getElem? (i := 2246) (by decide +kernel)⟩
theorem lw_p89 : lw_okq (⟨"RailwayHouseModel", "nextToken", "()V"⟩, 146) := ⟨⟨by decide +kernel, by decide +kernel⟩, List.mem_of_getElem? (i := 1750) (by decide +kernel), List.mem_of_getElem? (i := 2249) (by decide +kernel), List.mem_of_getElem? (i := 2250) (by decide +kernel)⟩
theorem lw_p90 : lw_okq (⟨"RailwayHouseModel", "byteAt", "(I)I"⟩, 146) := ⟨⟨by decide +kernel, by decide +kernel⟩, List.mem_of_getElem? (i := 1750) (by decide +kernel), List.mem_of_getElem? (i := 2253) (by decide +kernel), List.mem_of_getElem? (i := 2254) (by decide +kernel)⟩
theorem lw_p91 : lw_okq (⟨"RailwayHouseModel", "readStatement", "()Z"⟩, 146) := ⟨⟨by decide +kernel, by decide +kernel⟩, List.mem_of_getElem? (i := 1750) (by decide +kernel), List.mem_of_getElem? (i := 2263) (by decide +kernel), List.mem_of_getElem? (i := 2264) (by decide +kernel)⟩
theorem lw_p92 : lw_okq (⟨"RailwayHouseModel", "isToken", "(I)Z"⟩, 146) := ⟨⟨by decide +kernel, by decide +kernel⟩, List.mem_of_getElem? (i := 1750) (by decide +kernel), List.mem_of_getElem? (i := 2267) (by decide +kernel), List.mem_of_getElem? (i := 2268) (by decide +kernel)⟩
theorem lw_p93 : lw_okq (⟨"RailwayHouseModel", "wrong", "(II)Z"⟩, 146) := ⟨⟨by decide +kernel, by decide +kernel⟩, List.mem_of_getElem? (i := 1750) (by decide +kernel), List.mem_of_getElem? (i := 2271) (by decide +kernel), List.mem_of_getElem? (i := 2272) (by decide +kernel)⟩
theorem lw_p94 : lw_okq (⟨"RailwayHouseModel", "readSection", "(Z)Z"⟩, 146) := ⟨⟨by decide +kernel, by decide +kernel⟩, List.mem_of_getElem? (i := 1750) (by decide +kernel), List.mem_of_getElem? (i := 2277) (by decide +kernel), List.mem_of_getElem? (i := 2278) (by decide +kernel)⟩
theorem lw_p95 : lw_okq (⟨"RailwayHouseModel", "takeNumber", "(II)Z"⟩, 146) := ⟨⟨by decide +kernel, by decide +kernel⟩, List.mem_of_getElem? (i := 1750) (by decide +kernel), List.mem_of_getElem? (i := 2281) (by decide +kernel), List.mem_of_getElem? (i := 2282) (by decide +kernel)⟩
def lw_privs_6 : List (MethodName × Nat) := [(⟨"RailwayHouseModel", "beginAll", "()V"⟩, 146), (⟨"RailwayHouseModel", "beginHouse", "()V"⟩, 146), (⟨"RailwayHouseModel", "freshChannels", "(I)V"⟩, 146), (⟨"RailwayHouseModel", "freshChannel", "(II)V"⟩, 146), (⟨"RailwayHouseModel", "none", "(I)V"⟩, 146), (⟨"RailwayHouseModel", "layRow", "(I)V"⟩, 146), (⟨"RailwayHouseModel", "routeNow", "(I)I"⟩, 146), (⟨"RailwayHouseModel", "noReports", "()V"⟩, 146), (⟨"RailwayHouseModel", "readLayout", "()Z"⟩, 146), (⟨"RailwayHouseModel", "nextToken", "()V"⟩, 146), (⟨"RailwayHouseModel", "byteAt", "(I)I"⟩, 146), (⟨"RailwayHouseModel", "readStatement", "()Z"⟩, 146), (⟨"RailwayHouseModel", "isToken", "(I)Z"⟩, 146), (⟨"RailwayHouseModel", "wrong", "(II)Z"⟩, 146), (⟨"RailwayHouseModel", "readSection", "(Z)Z"⟩, 146), (⟨"RailwayHouseModel", "takeNumber", "(II)Z"⟩, 146)]
theorem lw_r6 : ∀ q ∈ lw_privs_6, lw_okq q := List.forall_mem_cons.mpr ⟨lw_p80, List.forall_mem_cons.mpr ⟨lw_p81, List.forall_mem_cons.mpr ⟨lw_p82, List.forall_mem_cons.mpr ⟨lw_p83, List.forall_mem_cons.mpr ⟨lw_p84, List.forall_mem_cons.mpr ⟨lw_p85, List.forall_mem_cons.mpr ⟨lw_p86, List.forall_mem_cons.mpr ⟨lw_p87, List.forall_mem_cons.mpr ⟨lw_p88, List.forall_mem_cons.mpr ⟨lw_p89, List.forall_mem_cons.mpr ⟨lw_p90, List.forall_mem_cons.mpr ⟨lw_p91, List.forall_mem_cons.mpr ⟨lw_p92, List.forall_mem_cons.mpr ⟨lw_p93, List.forall_mem_cons.mpr ⟨lw_p94, List.forall_mem_cons.mpr ⟨lw_p95, fun _ h => absurd h List.not_mem_nil⟩⟩⟩⟩⟩⟩⟩⟩⟩⟩⟩⟩⟩⟩⟩⟩
theorem lw_p96 : lw_okq (⟨"RailwayHouseModel", "takeSemicolon", "()Z"⟩, 146) := ⟨⟨by decide +kernel, by decide +kernel⟩, List.mem_of_getElem? (i := 1750) (by decide +kernel), List.mem_of_getElem? (i := 2285) (by decide +kernel), List.mem_of_getElem? (i := 2286) (by decide +kernel)⟩
theorem lw_p97 : lw_okq (⟨"RailwayHouseModel", "readJoin", "()Z"⟩, 146) := ⟨⟨by decide +kernel, by decide +kernel⟩, List.mem_of_getElem? (i := 1750) (by decide +kernel), List.mem_of_getElem? (i := 2290) (by decide +kernel), List.mem_of_getElem? (i := 2291) (by decide +kernel)⟩
theorem lw_p98 : lw_okq (⟨"RailwayHouseModel", "takeEnd", "(III)Z"⟩, 146) := ⟨⟨by decide +kernel, by decide +kernel⟩, List.mem_of_getElem? (i := 1750) (by decide +kernel), List.mem_of_getElem? (i := 2294) (by decide +kernel), List.mem_of_getElem? (i := 2295) (by decide +kernel)⟩
theorem lw_p99 : lw_okq (⟨"RailwayHouseModel", "readSignal", "()Z"⟩, 146) := ⟨⟨by decide +kernel, by decide +kernel⟩, List.mem_of_getElem? (i := 1750) (by decide +kernel), List.mem_of_getElem? (i := 2304) (by decide +kernel), List.mem_of_getElem? (i := 2305) (by decide +kernel)⟩
theorem lw_p100 : lw_okq (⟨"RailwayHouseModel", "takePlain", "()Z"⟩, 146) := ⟨⟨by decide +kernel, by decide +kernel⟩, List.mem_of_getElem? (i := 1750) (by decide +kernel), List.mem_of_getElem? (i := 2308) (by decide +kernel), List.mem_of_getElem? (i := 2309) (by decide +kernel)⟩
theorem lw_p101 : lw_okq (⟨"RailwayHouseModel", "readStop", "()Z"⟩, 146) := ⟨⟨by decide +kernel, by decide +kernel⟩, List.mem_of_getElem? (i := 1750) (by decide +kernel), List.mem_of_getElem? (i := 2313) (by decide +kernel), List.mem_of_getElem? (i := 2314) (by decide +kernel)⟩
theorem lw_p102 : lw_okq (⟨"RailwayHouseModel", "takeLayout", "()V"⟩, 146) := ⟨⟨by decide +kernel, by decide +kernel⟩, List.mem_of_getElem? (i := 1750) (by decide +kernel), List.mem_of_getElem? (i := 2317) (by decide +kernel), List.mem_of_getElem? (i := 2318) (by decide +kernel)⟩
theorem lw_p103 : lw_okq (⟨"RailwayHouseModel", "findRoutes", "()V"⟩, 146) := ⟨⟨by decide +kernel, by decide +kernel⟩, List.mem_of_getElem? (i := 1750) (by decide +kernel), List.mem_of_getElem? (i := 2321) (by decide +kernel), List.mem_of_getElem? (i := 2322) (by decide +kernel)⟩
theorem lw_p104 : lw_okq (⟨"RailwayHouseModel", "goWay", "(I)Z"⟩, 146) := ⟨⟨by decide +kernel, by decide +kernel⟩, List.mem_of_getElem? (i := 1750) (by decide +kernel), List.mem_of_getElem? (i := 2325) (by decide +kernel), List.mem_of_getElem? (i := 2326) (by decide +kernel)⟩
theorem lw_p105 : lw_okq (⟨"RailwayHouseModel", "isInWay", "(I)Z"⟩, 146) := ⟨⟨by decide +kernel, by decide +kernel⟩, List.mem_of_getElem? (i := 1750) (by decide +kernel), List.mem_of_getElem? (i := 2329) (by decide +kernel), List.mem_of_getElem? (i := 2330) (by decide +kernel)⟩
theorem lw_p106 : lw_okq (⟨"RailwayHouseModel", "findNeeds", "()Z"⟩, 146) := ⟨⟨by decide +kernel, by decide +kernel⟩, List.mem_of_getElem? (i := 1750) (by decide +kernel), List.mem_of_getElem? (i := 2333) (by decide +kernel), List.mem_of_getElem? (i := 2334) (by decide +kernel)⟩
theorem lw_p107 : lw_okq (⟨"RailwayHouseModel", "need", "(III)Z"⟩, 146) := ⟨⟨by decide +kernel, by decide +kernel⟩, List.mem_of_getElem? (i := 1750) (by decide +kernel), List.mem_of_getElem? (i := 2337) (by decide +kernel), List.mem_of_getElem? (i := 2338) (by decide +kernel)⟩
theorem lw_p108 : lw_okq (⟨"RailwayHouseModel", "addRoute", "(I)V"⟩, 146) := ⟨⟨by decide +kernel, by decide +kernel⟩, List.mem_of_getElem? (i := 1750) (by decide +kernel), List.mem_of_getElem? (i := 2341) (by decide +kernel), List.mem_of_getElem? (i := 2342) (by decide +kernel)⟩
theorem lw_p109 : lw_okq (⟨"RailwayHouseModel", "nextChoices", "()Z"⟩, 146) := ⟨⟨by decide +kernel, by decide +kernel⟩, List.mem_of_getElem? (i := 1750) (by decide +kernel), List.mem_of_getElem? (i := 2345) (by decide +kernel), List.mem_of_getElem? (i := 2346) (by decide +kernel)⟩
theorem lw_p110 : lw_okq (⟨"RailwayHouseModel", "noSection", "(I)Z"⟩, 146) := ⟨⟨by decide +kernel, by decide +kernel⟩, List.mem_of_getElem? (i := 1750) (by decide +kernel), List.mem_of_getElem? (i := 2357) (by decide +kernel), List.mem_of_getElem? (i := 2358) (by decide +kernel)⟩
theorem lw_p111 : lw_okq (⟨"RailwayHouseModel", "noSignal", "(I)Z"⟩, 146) := ⟨⟨by decide +kernel, by decide +kernel⟩, List.mem_of_getElem? (i := 1750) (by decide +kernel), List.mem_of_getElem? (i := 2365) (by decide +kernel), List.mem_of_getElem? (i := 2366) (by decide +kernel)⟩
def lw_privs_7 : List (MethodName × Nat) := [(⟨"RailwayHouseModel", "takeSemicolon", "()Z"⟩, 146), (⟨"RailwayHouseModel", "readJoin", "()Z"⟩, 146), (⟨"RailwayHouseModel", "takeEnd", "(III)Z"⟩, 146), (⟨"RailwayHouseModel", "readSignal", "()Z"⟩, 146), (⟨"RailwayHouseModel", "takePlain", "()Z"⟩, 146), (⟨"RailwayHouseModel", "readStop", "()Z"⟩, 146), (⟨"RailwayHouseModel", "takeLayout", "()V"⟩, 146), (⟨"RailwayHouseModel", "findRoutes", "()V"⟩, 146), (⟨"RailwayHouseModel", "goWay", "(I)Z"⟩, 146), (⟨"RailwayHouseModel", "isInWay", "(I)Z"⟩, 146), (⟨"RailwayHouseModel", "findNeeds", "()Z"⟩, 146), (⟨"RailwayHouseModel", "need", "(III)Z"⟩, 146), (⟨"RailwayHouseModel", "addRoute", "(I)V"⟩, 146), (⟨"RailwayHouseModel", "nextChoices", "()Z"⟩, 146), (⟨"RailwayHouseModel", "noSection", "(I)Z"⟩, 146), (⟨"RailwayHouseModel", "noSignal", "(I)Z"⟩, 146)]
theorem lw_r7 : ∀ q ∈ lw_privs_7, lw_okq q := List.forall_mem_cons.mpr ⟨lw_p96, List.forall_mem_cons.mpr ⟨lw_p97, List.forall_mem_cons.mpr ⟨lw_p98, List.forall_mem_cons.mpr ⟨lw_p99, List.forall_mem_cons.mpr ⟨lw_p100, List.forall_mem_cons.mpr ⟨lw_p101, List.forall_mem_cons.mpr ⟨lw_p102, List.forall_mem_cons.mpr ⟨lw_p103, List.forall_mem_cons.mpr ⟨lw_p104, List.forall_mem_cons.mpr ⟨lw_p105, List.forall_mem_cons.mpr ⟨lw_p106, List.forall_mem_cons.mpr ⟨lw_p107, List.forall_mem_cons.mpr ⟨lw_p108, List.forall_mem_cons.mpr ⟨lw_p109, List.forall_mem_cons.mpr ⟨lw_p110, List.forall_mem_cons.mpr ⟨lw_p111, fun _ h => absurd h List.not_mem_nil⟩⟩⟩⟩⟩⟩⟩⟩⟩⟩⟩⟩⟩⟩⟩⟩
theorem lw_p112 : lw_okq (⟨"RailwayHouseModel", "noRoute", "(I)Z"⟩, 146) := ⟨⟨by decide +kernel, by decide +kernel⟩, List.mem_of_getElem? (i := 1750) (by decide +kernel), List.mem_of_getElem? (i := 2373) (by decide +kernel), List.mem_of_getElem? (i := 2374) (by decide +kernel)⟩
theorem lw_p113 : lw_okq (⟨"RailwayHouseModel", "hasSection", "(II)Z"⟩, 146) := ⟨⟨by decide +kernel, by decide +kernel⟩, List.mem_of_getElem? (i := 1750) (by decide +kernel), List.mem_of_getElem? (i := 2389) (by decide +kernel), List.mem_of_getElem? (i := 2390) (by decide +kernel)⟩
theorem lw_p114 : lw_okq (⟨"RailwayHouseModel", "shareSections", "(II)Z"⟩, 146) := ⟨⟨by decide +kernel, by decide +kernel⟩, List.mem_of_getElem? (i := 1750) (by decide +kernel), List.mem_of_getElem? (i := 2393) (by decide +kernel), List.mem_of_getElem? (i := 2394) (by decide +kernel)⟩
theorem lw_p115 : lw_okq (⟨"RailwayHouseModel", "needUnlike", "(II)Z"⟩, 146) := ⟨⟨by decide +kernel, by decide +kernel⟩, List.mem_of_getElem? (i := 1750) (by decide +kernel), List.mem_of_getElem? (i := 2397) (by decide +kernel), List.mem_of_getElem? (i := 2398) (by decide +kernel)⟩
theorem lw_p116 : lw_okq (⟨"RailwayHouseModel", "isFree", "(I)Z"⟩, 146) := ⟨⟨by decide +kernel, by decide +kernel⟩, List.mem_of_getElem? (i := 1750) (by decide +kernel), List.mem_of_getElem? (i := 2409) (by decide +kernel), List.mem_of_getElem? (i := 2410) (by decide +kernel)⟩
theorem lw_p117 : lw_okq (⟨"RailwayHouseModel", "liesTo", "(I)I"⟩, 146) := ⟨⟨by decide +kernel, by decide +kernel⟩, List.mem_of_getElem? (i := 1750) (by decide +kernel), List.mem_of_getElem? (i := 2413) (by decide +kernel), List.mem_of_getElem? (i := 2414) (by decide +kernel)⟩
theorem lw_p118 : lw_okq (⟨"RailwayHouseModel", "order", "(III)I"⟩, 146) := ⟨⟨by decide +kernel, by decide +kernel⟩, List.mem_of_getElem? (i := 1750) (by decide +kernel), List.mem_of_getElem? (i := 2421) (by decide +kernel), List.mem_of_getElem? (i := 2422) (by decide +kernel)⟩
theorem lw_p119 : lw_okq (⟨"RailwayHouseModel", "orderIn", "(IIII)Z"⟩, 146) := ⟨⟨by decide +kernel, by decide +kernel⟩, List.mem_of_getElem? (i := 1750) (by decide +kernel), List.mem_of_getElem? (i := 2425) (by decide +kernel), List.mem_of_getElem? (i := 2426) (by decide +kernel)⟩
theorem lw_p120 : lw_okq (⟨"RailwayHouseModel", "setIn", "(II)Z"⟩, 146) := ⟨⟨by decide +kernel, by decide +kernel⟩, List.mem_of_getElem? (i := 1750) (by decide +kernel), List.mem_of_getElem? (i := 2429) (by decide +kernel), List.mem_of_getElem? (i := 2430) (by decide +kernel)⟩
theorem lw_p121 : lw_okq (⟨"RailwayHouseModel", "maySet", "(II)Z"⟩, 146) := ⟨⟨by decide +kernel, by decide +kernel⟩, List.mem_of_getElem? (i := 1750) (by decide +kernel), List.mem_of_getElem? (i := 2433) (by decide +kernel), List.mem_of_getElem? (i := 2434) (by decide +kernel)⟩
theorem lw_p122 : lw_okq (⟨"RailwayHouseModel", "allFree", "(II)Z"⟩, 146) := ⟨⟨by decide +kernel, by decide +kernel⟩, List.mem_of_getElem? (i := 1750) (by decide +kernel), List.mem_of_getElem? (i := 2437) (by decide +kernel), List.mem_of_getElem? (i := 2438) (by decide +kernel)⟩
theorem lw_p123 : lw_okq (⟨"RailwayHouseModel", "freeTo", "(II)Z"⟩, 146) := ⟨⟨by decide +kernel, by decide +kernel⟩, List.mem_of_getElem? (i := 1750) (by decide +kernel), List.mem_of_getElem? (i := 2441) (by decide +kernel), List.mem_of_getElem? (i := 2442) (by decide +kernel)⟩
theorem lw_p124 : lw_okq (⟨"RailwayHouseModel", "isHeldAgainst", "(III)Z"⟩, 146) := ⟨⟨by decide +kernel, by decide +kernel⟩, List.mem_of_getElem? (i := 1750) (by decide +kernel), List.mem_of_getElem? (i := 2445) (by decide +kernel), List.mem_of_getElem? (i := 2446) (by decide +kernel)⟩
theorem lw_p125 : lw_okq (⟨"RailwayHouseModel", "isHeldAsSection", "(III)Z"⟩, 146) := ⟨⟨by decide +kernel, by decide +kernel⟩, List.mem_of_getElem? (i := 1750) (by decide +kernel), List.mem_of_getElem? (i := 2449) (by decide +kernel), List.mem_of_getElem? (i := 2450) (by decide +kernel)⟩
theorem lw_p126 : lw_okq (⟨"RailwayHouseModel", "holdsAsSection", "(III)Z"⟩, 146) := ⟨⟨by decide +kernel, by decide +kernel⟩, List.mem_of_getElem? (i := 1750) (by decide +kernel), List.mem_of_getElem? (i := 2453) (by decide +kernel), List.mem_of_getElem? (i := 2454) (by decide +kernel)⟩
theorem lw_p127 : lw_okq (⟨"RailwayHouseModel", "holdsAt", "(III)Z"⟩, 146) := ⟨⟨by decide +kernel, by decide +kernel⟩, List.mem_of_getElem? (i := 1750) (by decide +kernel), List.mem_of_getElem? (i := 2457) (by decide +kernel), List.mem_of_getElem? (i := 2458) (by decide +kernel)⟩
def lw_privs_8 : List (MethodName × Nat) := [(⟨"RailwayHouseModel", "noRoute", "(I)Z"⟩, 146), (⟨"RailwayHouseModel", "hasSection", "(II)Z"⟩, 146), (⟨"RailwayHouseModel", "shareSections", "(II)Z"⟩, 146), (⟨"RailwayHouseModel", "needUnlike", "(II)Z"⟩, 146), (⟨"RailwayHouseModel", "isFree", "(I)Z"⟩, 146), (⟨"RailwayHouseModel", "liesTo", "(I)I"⟩, 146), (⟨"RailwayHouseModel", "order", "(III)I"⟩, 146), (⟨"RailwayHouseModel", "orderIn", "(IIII)Z"⟩, 146), (⟨"RailwayHouseModel", "setIn", "(II)Z"⟩, 146), (⟨"RailwayHouseModel", "maySet", "(II)Z"⟩, 146), (⟨"RailwayHouseModel", "allFree", "(II)Z"⟩, 146), (⟨"RailwayHouseModel", "freeTo", "(II)Z"⟩, 146), (⟨"RailwayHouseModel", "isHeldAgainst", "(III)Z"⟩, 146), (⟨"RailwayHouseModel", "isHeldAsSection", "(III)Z"⟩, 146), (⟨"RailwayHouseModel", "holdsAsSection", "(III)Z"⟩, 146), (⟨"RailwayHouseModel", "holdsAt", "(III)Z"⟩, 146)]
theorem lw_r8 : ∀ q ∈ lw_privs_8, lw_okq q := List.forall_mem_cons.mpr ⟨lw_p112, List.forall_mem_cons.mpr ⟨lw_p113, List.forall_mem_cons.mpr ⟨lw_p114, List.forall_mem_cons.mpr ⟨lw_p115, List.forall_mem_cons.mpr ⟨lw_p116, List.forall_mem_cons.mpr ⟨lw_p117, List.forall_mem_cons.mpr ⟨lw_p118, List.forall_mem_cons.mpr ⟨lw_p119, List.forall_mem_cons.mpr ⟨lw_p120, List.forall_mem_cons.mpr ⟨lw_p121, List.forall_mem_cons.mpr ⟨lw_p122, List.forall_mem_cons.mpr ⟨lw_p123, List.forall_mem_cons.mpr ⟨lw_p124, List.forall_mem_cons.mpr ⟨lw_p125, List.forall_mem_cons.mpr ⟨lw_p126, List.forall_mem_cons.mpr ⟨lw_p127, fun _ h => absurd h List.not_mem_nil⟩⟩⟩⟩⟩⟩⟩⟩⟩⟩⟩⟩⟩⟩⟩⟩
theorem lw_p128 : lw_okq (⟨"RailwayHouseModel", "holdsOverlap", "(II)Z"⟩, 146) := ⟨⟨by decide +kernel, by decide +kernel⟩, List.mem_of_getElem? (i := 1750) (by decide +kernel), List.mem_of_getElem? (i := 2461) (by decide +kernel), List.mem_of_getElem? (i := 2462) (by decide +kernel)⟩
theorem lw_p129 : lw_okq (⟨"RailwayHouseModel", "mayNeed", "(III)Z"⟩, 146) := ⟨⟨by decide +kernel, by decide +kernel⟩, List.mem_of_getElem? (i := 1750) (by decide +kernel), List.mem_of_getElem? (i := 2465) (by decide +kernel), List.mem_of_getElem? (i := 2466) (by decide +kernel)⟩
theorem lw_p130 : lw_okq (⟨"RailwayHouseModel", "isBound", "(IIII)Z"⟩, 146) := ⟨⟨by decide +kernel, by decide +kernel⟩, List.mem_of_getElem? (i := 1750) (by decide +kernel), List.mem_of_getElem? (i := 2469) (by decide +kernel), List.mem_of_getElem? (i := 2470) (by decide +kernel)⟩
theorem lw_p131 : lw_okq (⟨"RailwayHouseModel", "bindsNeed", "(III)Z"⟩, 146) := ⟨⟨by decide +kernel, by decide +kernel⟩, List.mem_of_getElem? (i := 1750) (by decide +kernel), List.mem_of_getElem? (i := 2473) (by decide +kernel), List.mem_of_getElem? (i := 2474) (by decide +kernel)⟩
theorem lw_p132 : lw_okq (⟨"RailwayHouseModel", "isHeld", "(III)Z"⟩, 146) := ⟨⟨by decide +kernel, by decide +kernel⟩, List.mem_of_getElem? (i := 1750) (by decide +kernel), List.mem_of_getElem? (i := 2477) (by decide +kernel), List.mem_of_getElem? (i := 2478) (by decide +kernel)⟩
theorem lw_p133 : lw_okq (⟨"RailwayHouseModel", "holds", "(III)Z"⟩, 146) := ⟨⟨by decide +kernel, by decide +kernel⟩, List.mem_of_getElem? (i := 1750) (by decide +kernel), List.mem_of_getElem? (i := 2481) (by decide +kernel), List.mem_of_getElem? (i := 2482) (by decide +kernel)⟩
theorem lw_p134 : lw_okq (⟨"RailwayHouseModel", "cancelIn", "(II)Z"⟩, 146) := ⟨⟨by decide +kernel, by decide +kernel⟩, List.mem_of_getElem? (i := 1750) (by decide +kernel), List.mem_of_getElem? (i := 2485) (by decide +kernel), List.mem_of_getElem? (i := 2486) (by decide +kernel)⟩
theorem lw_p135 : lw_okq (⟨"RailwayHouseModel", "releaseIn", "(II)Z"⟩, 146) := ⟨⟨by decide +kernel, by decide +kernel⟩, List.mem_of_getElem? (i := 1750) (by decide +kernel), List.mem_of_getElem? (i := 2489) (by decide +kernel), List.mem_of_getElem? (i := 2490) (by decide +kernel)⟩
theorem lw_p136 : lw_okq (⟨"RailwayHouseModel", "moveIn", "(III)Z"⟩, 146) := ⟨⟨by decide +kernel, by decide +kernel⟩, List.mem_of_getElem? (i := 1750) (by decide +kernel), List.mem_of_getElem? (i := 2493) (by decide +kernel), List.mem_of_getElem? (i := 2494) (by decide +kernel)⟩
theorem lw_p137 : lw_okq (⟨"RailwayHouseModel", "vote", "(Z)I"⟩, 146) := ⟨⟨by decide +kernel, by decide +kernel⟩, List.mem_of_getElem? (i := 1750) (by decide +kernel), List.mem_of_getElem? (i := 2497) (by decide +kernel), List.mem_of_getElem? (i := 2498) (by decide +kernel)⟩
theorem lw_p138 : lw_okq (⟨"RailwayHouseModel", "alike", "(IIZ)Z"⟩, 146) := ⟨⟨by decide +kernel, by decide +kernel⟩, List.mem_of_getElem? (i := 1750) (by decide +kernel), List.mem_of_getElem? (i := 2501) (by decide +kernel), List.mem_of_getElem? (i := 2502) (by decide +kernel)⟩
theorem lw_p139 : lw_okq (⟨"RailwayHouseModel", "samePhases", "(II)Z"⟩, 146) := ⟨⟨by decide +kernel, by decide +kernel⟩, List.mem_of_getElem? (i := 1750) (by decide +kernel), List.mem_of_getElem? (i := 2505) (by decide +kernel), List.mem_of_getElem? (i := 2506) (by decide +kernel)⟩
theorem lw_p140 : lw_okq (⟨"RailwayHouseModel", "goDown", "()V"⟩, 146) := ⟨⟨by decide +kernel, by decide +kernel⟩, List.mem_of_getElem? (i := 1750) (by decide +kernel), List.mem_of_getElem? (i := 2509) (by decide +kernel), List.mem_of_getElem? (i := 2510) (by decide +kernel)⟩
theorem lw_p141 : lw_okq (⟨"RailwayHouseModel", "noPoint", "(I)Z"⟩, 146) := ⟨⟨by decide +kernel, by decide +kernel⟩, List.mem_of_getElem? (i := 1750) (by decide +kernel), List.mem_of_getElem? (i := 2525) (by decide +kernel), List.mem_of_getElem? (i := 2526) (by decide +kernel)⟩
theorem lw_p142 : lw_okq (⟨"RailwayHouseModel", "house", "()I"⟩, 146) := ⟨⟨by decide +kernel, by decide +kernel⟩, List.mem_of_getElem? (i := 1750) (by decide +kernel), List.mem_of_getElem? (i := 2537) (by decide +kernel), List.mem_of_getElem? (i := 2538) (by decide +kernel)⟩
theorem lw_p143 : lw_okq (⟨"RailwayHouseModel", "borderOf", "(I)I"⟩, 146) := ⟨⟨by decide +kernel, by decide +kernel⟩, List.mem_of_getElem? (i := 1750) (by decide +kernel), List.mem_of_getElem? (i := 2561) (by decide +kernel), List.mem_of_getElem? (i := 2562) (by decide +kernel)⟩
def lw_privs_9 : List (MethodName × Nat) := [(⟨"RailwayHouseModel", "holdsOverlap", "(II)Z"⟩, 146), (⟨"RailwayHouseModel", "mayNeed", "(III)Z"⟩, 146), (⟨"RailwayHouseModel", "isBound", "(IIII)Z"⟩, 146), (⟨"RailwayHouseModel", "bindsNeed", "(III)Z"⟩, 146), (⟨"RailwayHouseModel", "isHeld", "(III)Z"⟩, 146), (⟨"RailwayHouseModel", "holds", "(III)Z"⟩, 146), (⟨"RailwayHouseModel", "cancelIn", "(II)Z"⟩, 146), (⟨"RailwayHouseModel", "releaseIn", "(II)Z"⟩, 146), (⟨"RailwayHouseModel", "moveIn", "(III)Z"⟩, 146), (⟨"RailwayHouseModel", "vote", "(Z)I"⟩, 146), (⟨"RailwayHouseModel", "alike", "(IIZ)Z"⟩, 146), (⟨"RailwayHouseModel", "samePhases", "(II)Z"⟩, 146), (⟨"RailwayHouseModel", "goDown", "()V"⟩, 146), (⟨"RailwayHouseModel", "noPoint", "(I)Z"⟩, 146), (⟨"RailwayHouseModel", "house", "()I"⟩, 146), (⟨"RailwayHouseModel", "borderOf", "(I)I"⟩, 146)]
theorem lw_r9 : ∀ q ∈ lw_privs_9, lw_okq q := List.forall_mem_cons.mpr ⟨lw_p128, List.forall_mem_cons.mpr ⟨lw_p129, List.forall_mem_cons.mpr ⟨lw_p130, List.forall_mem_cons.mpr ⟨lw_p131, List.forall_mem_cons.mpr ⟨lw_p132, List.forall_mem_cons.mpr ⟨lw_p133, List.forall_mem_cons.mpr ⟨lw_p134, List.forall_mem_cons.mpr ⟨lw_p135, List.forall_mem_cons.mpr ⟨lw_p136, List.forall_mem_cons.mpr ⟨lw_p137, List.forall_mem_cons.mpr ⟨lw_p138, List.forall_mem_cons.mpr ⟨lw_p139, List.forall_mem_cons.mpr ⟨lw_p140, List.forall_mem_cons.mpr ⟨lw_p141, List.forall_mem_cons.mpr ⟨lw_p142, List.forall_mem_cons.mpr ⟨lw_p143, fun _ h => absurd h List.not_mem_nil⟩⟩⟩⟩⟩⟩⟩⟩⟩⟩⟩⟩⟩⟩⟩⟩
theorem lw_p144 : lw_okq (⟨"RailwayHouseModel", "firstTrainOn", "(I)I"⟩, 146) := ⟨⟨by decide +kernel, by decide +kernel⟩, List.mem_of_getElem? (i := 1750) (by decide +kernel), List.mem_of_getElem? (i := 2565) (by decide +kernel), List.mem_of_getElem? (i := 2566) (by decide +kernel)⟩
theorem lw_p145 : lw_okq (⟨"RailwayHouseModel", "isGone", "(I)Z"⟩, 146) := ⟨⟨by decide +kernel, by decide +kernel⟩, List.mem_of_getElem? (i := 1750) (by decide +kernel), List.mem_of_getElem? (i := 2569) (by decide +kernel), List.mem_of_getElem? (i := 2570) (by decide +kernel)⟩
theorem lw_p146 : lw_okq (⟨"RailwayHouseModel", "isOn", "(II)Z"⟩, 146) := ⟨⟨by decide +kernel, by decide +kernel⟩, List.mem_of_getElem? (i := 1750) (by decide +kernel), List.mem_of_getElem? (i := 2573) (by decide +kernel), List.mem_of_getElem? (i := 2574) (by decide +kernel)⟩
theorem lw_p147 : lw_okq (⟨"RailwayHouseModel", "manyOn", "(I)I"⟩, 146) := ⟨⟨by decide +kernel, by decide +kernel⟩, List.mem_of_getElem? (i := 1750) (by decide +kernel), List.mem_of_getElem? (i := 2577) (by decide +kernel), List.mem_of_getElem? (i := 2578) (by decide +kernel)⟩
theorem lw_p148 : lw_okq (⟨"RailwayHouseModel", "lastOf", "(I)I"⟩, 146) := ⟨⟨by decide +kernel, by decide +kernel⟩, List.mem_of_getElem? (i := 1750) (by decide +kernel), List.mem_of_getElem? (i := 2581) (by decide +kernel), List.mem_of_getElem? (i := 2582) (by decide +kernel)⟩
theorem lw_p149 : lw_okq (⟨"RailwayHouseModel", "enters", "(III)V"⟩, 146) := ⟨⟨by decide +kernel, by decide +kernel⟩, List.mem_of_getElem? (i := 1750) (by decide +kernel), List.mem_of_getElem? (i := 2586) (by decide +kernel), List.mem_of_getElem? (i := 2587) (by decide +kernel)⟩
theorem lw_p150 : lw_okq (⟨"RailwayHouseModel", "noTrain", "(I)Z"⟩, 146) := ⟨⟨by decide +kernel, by decide +kernel⟩, List.mem_of_getElem? (i := 1750) (by decide +kernel), List.mem_of_getElem? (i := 2594) (by decide +kernel), List.mem_of_getElem? (i := 2595) (by decide +kernel)⟩
theorem lw_p151 : lw_okq (⟨"RailwayHouseModel", "sectionsOf", "(I)I"⟩, 146) := ⟨⟨by decide +kernel, by decide +kernel⟩, List.mem_of_getElem? (i := 1750) (by decide +kernel), List.mem_of_getElem? (i := 2602) (by decide +kernel), List.mem_of_getElem? (i := 2603) (by decide +kernel)⟩
theorem lw_p152 : lw_okq (⟨"RailwayHouseModel", "leaveOf", "(I)I"⟩, 146) := ⟨⟨by decide +kernel, by decide +kernel⟩, List.mem_of_getElem? (i := 1750) (by decide +kernel), List.mem_of_getElem? (i := 2610) (by decide +kernel), List.mem_of_getElem? (i := 2611) (by decide +kernel)⟩
theorem lw_p153 : lw_okq (⟨"RailwayHouseModel", "proceeds", "(I)Z"⟩, 146) := ⟨⟨by decide +kernel, by decide +kernel⟩, List.mem_of_getElem? (i := 1750) (by decide +kernel), List.mem_of_getElem? (i := 2614) (by decide +kernel), List.mem_of_getElem? (i := 2615) (by decide +kernel)⟩
theorem lw_p154 : lw_okq (⟨"RailwayHouseModel", "outOf", "(II)I"⟩, 146) := ⟨⟨by decide +kernel, by decide +kernel⟩, List.mem_of_getElem? (i := 1750) (by decide +kernel), List.mem_of_getElem? (i := 2618) (by decide +kernel), List.mem_of_getElem? (i := 2619) (by decide +kernel)⟩
theorem lw_p155 : lw_okq (⟨"RailwayHouseModel", "oneTick", "()V"⟩, 146) := ⟨⟨by decide +kernel, by decide +kernel⟩, List.mem_of_getElem? (i := 1750) (by decide +kernel), List.mem_of_getElem? (i := 2630) (by decide +kernel), List.mem_of_getElem? (i := 2631) (by decide +kernel)⟩
theorem lw_p156 : lw_okq (⟨"RailwayHouseModel", "pointGoes", "(I)V"⟩, 146) := ⟨⟨by decide +kernel, by decide +kernel⟩, List.mem_of_getElem? (i := 1750) (by decide +kernel), List.mem_of_getElem? (i := 2634) (by decide +kernel), List.mem_of_getElem? (i := 2635) (by decide +kernel)⟩
theorem lw_p157 : lw_okq (⟨"RailwayHouseModel", "moveTrain", "(I)V"⟩, 146) := ⟨⟨by decide +kernel, by decide +kernel⟩, List.mem_of_getElem? (i := 1750) (by decide +kernel), List.mem_of_getElem? (i := 2638) (by decide +kernel), List.mem_of_getElem? (i := 2639) (by decide +kernel)⟩
theorem lw_p158 : lw_okq (⟨"RailwayHouseModel", "touchAll", "(I)V"⟩, 146) := ⟨⟨by decide +kernel, by decide +kernel⟩, List.mem_of_getElem? (i := 1750) (by decide +kernel), List.mem_of_getElem? (i := 2642) (by decide +kernel), List.mem_of_getElem? (i := 2643) (by decide +kernel)⟩
theorem lw_p159 : lw_okq (⟨"RailwayHouseModel", "speedOf", "(I)I"⟩, 146) := ⟨⟨by decide +kernel, by decide +kernel⟩, List.mem_of_getElem? (i := 1750) (by decide +kernel), List.mem_of_getElem? (i := 2646) (by decide +kernel), List.mem_of_getElem? (i := 2647) (by decide +kernel)⟩
def lw_privs_10 : List (MethodName × Nat) := [(⟨"RailwayHouseModel", "firstTrainOn", "(I)I"⟩, 146), (⟨"RailwayHouseModel", "isGone", "(I)Z"⟩, 146), (⟨"RailwayHouseModel", "isOn", "(II)Z"⟩, 146), (⟨"RailwayHouseModel", "manyOn", "(I)I"⟩, 146), (⟨"RailwayHouseModel", "lastOf", "(I)I"⟩, 146), (⟨"RailwayHouseModel", "enters", "(III)V"⟩, 146), (⟨"RailwayHouseModel", "noTrain", "(I)Z"⟩, 146), (⟨"RailwayHouseModel", "sectionsOf", "(I)I"⟩, 146), (⟨"RailwayHouseModel", "leaveOf", "(I)I"⟩, 146), (⟨"RailwayHouseModel", "proceeds", "(I)Z"⟩, 146), (⟨"RailwayHouseModel", "outOf", "(II)I"⟩, 146), (⟨"RailwayHouseModel", "oneTick", "()V"⟩, 146), (⟨"RailwayHouseModel", "pointGoes", "(I)V"⟩, 146), (⟨"RailwayHouseModel", "moveTrain", "(I)V"⟩, 146), (⟨"RailwayHouseModel", "touchAll", "(I)V"⟩, 146), (⟨"RailwayHouseModel", "speedOf", "(I)I"⟩, 146)]
theorem lw_r10 : ∀ q ∈ lw_privs_10, lw_okq q := List.forall_mem_cons.mpr ⟨lw_p144, List.forall_mem_cons.mpr ⟨lw_p145, List.forall_mem_cons.mpr ⟨lw_p146, List.forall_mem_cons.mpr ⟨lw_p147, List.forall_mem_cons.mpr ⟨lw_p148, List.forall_mem_cons.mpr ⟨lw_p149, List.forall_mem_cons.mpr ⟨lw_p150, List.forall_mem_cons.mpr ⟨lw_p151, List.forall_mem_cons.mpr ⟨lw_p152, List.forall_mem_cons.mpr ⟨lw_p153, List.forall_mem_cons.mpr ⟨lw_p154, List.forall_mem_cons.mpr ⟨lw_p155, List.forall_mem_cons.mpr ⟨lw_p156, List.forall_mem_cons.mpr ⟨lw_p157, List.forall_mem_cons.mpr ⟨lw_p158, List.forall_mem_cons.mpr ⟨lw_p159, fun _ h => absurd h List.not_mem_nil⟩⟩⟩⟩⟩⟩⟩⟩⟩⟩⟩⟩⟩⟩⟩⟩
theorem lw_p160 : lw_okq (⟨"RailwayHouseModel", "isSafe", "(III)Z"⟩, 146) := ⟨⟨by decide +kernel, by decide +kernel⟩, List.mem_of_getElem? (i := 1750) (by decide +kernel), List.mem_of_getElem? (i := 2650) (by decide +kernel), List.mem_of_getElem? (i := 2651) (by decide +kernel)⟩
theorem lw_p161 : lw_okq (⟨"RailwayHouseModel", "isWithin", "(III)Z"⟩, 146) := ⟨⟨by decide +kernel, by decide +kernel⟩, List.mem_of_getElem? (i := 1750) (by decide +kernel), List.mem_of_getElem? (i := 2654) (by decide +kernel), List.mem_of_getElem? (i := 2655) (by decide +kernel)⟩
theorem lw_p162 : lw_okq (⟨"RailwayHouseModel", "limitAhead", "(III)I"⟩, 146) := ⟨⟨by decide +kernel, by decide +kernel⟩, List.mem_of_getElem? (i := 1750) (by decide +kernel), List.mem_of_getElem? (i := 2658) (by decide +kernel), List.mem_of_getElem? (i := 2659) (by decide +kernel)⟩
theorem lw_p163 : lw_okq (⟨"RailwayHouseModel", "limitBehind", "(III)I"⟩, 146) := ⟨⟨by decide +kernel, by decide +kernel⟩, List.mem_of_getElem? (i := 1750) (by decide +kernel), List.mem_of_getElem? (i := 2662) (by decide +kernel), List.mem_of_getElem? (i := 2663) (by decide +kernel)⟩
theorem lw_p164 : lw_okq (⟨"RailwayHouseModel", "goOn", "(I)Z"⟩, 146) := ⟨⟨by decide +kernel, by decide +kernel⟩, List.mem_of_getElem? (i := 1750) (by decide +kernel), List.mem_of_getElem? (i := 2666) (by decide +kernel), List.mem_of_getElem? (i := 2667) (by decide +kernel)⟩
theorem lw_p165 : lw_okq (⟨"RailwayHouseModel", "report", "()V"⟩, 146) := ⟨⟨by decide +kernel, by decide +kernel⟩, List.mem_of_getElem? (i := 1750) (by decide +kernel), List.mem_of_getElem? (i := 2670) (by decide +kernel), List.mem_of_getElem? (i := 2671) (by decide +kernel)⟩
theorem lw_p166 : lw_okq (⟨"RailwayHouseModel", "cyclesAndVote", "()V"⟩, 146) := ⟨⟨by decide +kernel, by decide +kernel⟩, List.mem_of_getElem? (i := 1750) (by decide +kernel), List.mem_of_getElem? (i := 2674) (by decide +kernel), List.mem_of_getElem? (i := 2675) (by decide +kernel)⟩
theorem lw_p167 : lw_okq (⟨"RailwayHouseModel", "cycle", "(I)V"⟩, 146) := ⟨⟨by decide +kernel, by decide +kernel⟩, List.mem_of_getElem? (i := 1750) (by decide +kernel), List.mem_of_getElem? (i := 2678) (by decide +kernel), List.mem_of_getElem? (i := 2679) (by decide +kernel)⟩
theorem lw_p168 : lw_okq (⟨"RailwayHouseModel", "cycleOf", "(II)V"⟩, 146) := ⟨⟨by decide +kernel, by decide +kernel⟩, List.mem_of_getElem? (i := 1750) (by decide +kernel), List.mem_of_getElem? (i := 2682) (by decide +kernel), List.mem_of_getElem? (i := 2683) (by decide +kernel)⟩
theorem lw_p169 : lw_okq (⟨"RailwayHouseModel", "allLie", "(I)Z"⟩, 146) := ⟨⟨by decide +kernel, by decide +kernel⟩, List.mem_of_getElem? (i := 1750) (by decide +kernel), List.mem_of_getElem? (i := 2686) (by decide +kernel), List.mem_of_getElem? (i := 2687) (by decide +kernel)⟩
theorem lw_p170 : lw_okq (⟨"RailwayHouseModel", "called", "(II)V"⟩, 146) := ⟨⟨by decide +kernel, by decide +kernel⟩, List.mem_of_getElem? (i := 1750) (by decide +kernel), List.mem_of_getElem? (i := 2690) (by decide +kernel), List.mem_of_getElem? (i := 2691) (by decide +kernel)⟩
theorem lw_p171 : lw_okq (⟨"RailwayHouseModel", "comes", "(II)Z"⟩, 146) := ⟨⟨by decide +kernel, by decide +kernel⟩, List.mem_of_getElem? (i := 1750) (by decide +kernel), List.mem_of_getElem? (i := 2694) (by decide +kernel), List.mem_of_getElem? (i := 2695) (by decide +kernel)⟩
theorem lw_p172 : lw_okq (⟨"RailwayHouseModel", "usedIn", "(II)V"⟩, 146) := ⟨⟨by decide +kernel, by decide +kernel⟩, List.mem_of_getElem? (i := 1750) (by decide +kernel), List.mem_of_getElem? (i := 2698) (by decide +kernel), List.mem_of_getElem? (i := 2699) (by decide +kernel)⟩
theorem lw_p173 : lw_okq (⟨"RailwayHouseModel", "goesOut", "(I)V"⟩, 146) := ⟨⟨by decide +kernel, by decide +kernel⟩, List.mem_of_getElem? (i := 1750) (by decide +kernel), List.mem_of_getElem? (i := 2702) (by decide +kernel), List.mem_of_getElem? (i := 2703) (by decide +kernel)⟩
theorem lw_p174 : lw_okq (⟨"RailwayHouseModel", "rowOf", "(I)J"⟩, 146) := ⟨⟨by decide +kernel, by decide +kernel⟩, List.mem_of_getElem? (i := 1750) (by decide +kernel), List.mem_of_getElem? (i := 2706) (by decide +kernel), List.mem_of_getElem? (i := 2707) (by decide +kernel)⟩
theorem lw_p175 : lw_okq (⟨"RailwayHouseModel", "moveBerths", "()V"⟩, 146) := ⟨⟨by decide +kernel, by decide +kernel⟩, List.mem_of_getElem? (i := 1750) (by decide +kernel), List.mem_of_getElem? (i := 2711) (by decide +kernel), List.mem_of_getElem? (i := 2712) (by decide +kernel)⟩
def lw_privs_11 : List (MethodName × Nat) := [(⟨"RailwayHouseModel", "isSafe", "(III)Z"⟩, 146), (⟨"RailwayHouseModel", "isWithin", "(III)Z"⟩, 146), (⟨"RailwayHouseModel", "limitAhead", "(III)I"⟩, 146), (⟨"RailwayHouseModel", "limitBehind", "(III)I"⟩, 146), (⟨"RailwayHouseModel", "goOn", "(I)Z"⟩, 146), (⟨"RailwayHouseModel", "report", "()V"⟩, 146), (⟨"RailwayHouseModel", "cyclesAndVote", "()V"⟩, 146), (⟨"RailwayHouseModel", "cycle", "(I)V"⟩, 146), (⟨"RailwayHouseModel", "cycleOf", "(II)V"⟩, 146), (⟨"RailwayHouseModel", "allLie", "(I)Z"⟩, 146), (⟨"RailwayHouseModel", "called", "(II)V"⟩, 146), (⟨"RailwayHouseModel", "comes", "(II)Z"⟩, 146), (⟨"RailwayHouseModel", "usedIn", "(II)V"⟩, 146), (⟨"RailwayHouseModel", "goesOut", "(I)V"⟩, 146), (⟨"RailwayHouseModel", "rowOf", "(I)J"⟩, 146), (⟨"RailwayHouseModel", "moveBerths", "()V"⟩, 146)]
theorem lw_r11 : ∀ q ∈ lw_privs_11, lw_okq q := List.forall_mem_cons.mpr ⟨lw_p160, List.forall_mem_cons.mpr ⟨lw_p161, List.forall_mem_cons.mpr ⟨lw_p162, List.forall_mem_cons.mpr ⟨lw_p163, List.forall_mem_cons.mpr ⟨lw_p164, List.forall_mem_cons.mpr ⟨lw_p165, List.forall_mem_cons.mpr ⟨lw_p166, List.forall_mem_cons.mpr ⟨lw_p167, List.forall_mem_cons.mpr ⟨lw_p168, List.forall_mem_cons.mpr ⟨lw_p169, List.forall_mem_cons.mpr ⟨lw_p170, List.forall_mem_cons.mpr ⟨lw_p171, List.forall_mem_cons.mpr ⟨lw_p172, List.forall_mem_cons.mpr ⟨lw_p173, List.forall_mem_cons.mpr ⟨lw_p174, List.forall_mem_cons.mpr ⟨lw_p175, fun _ h => absurd h List.not_mem_nil⟩⟩⟩⟩⟩⟩⟩⟩⟩⟩⟩⟩⟩⟩⟩⟩
theorem lw_p176 : lw_okq (⟨"RailwayHouseModel", "voters", "()I"⟩, 146) := ⟨⟨by decide +kernel, by decide +kernel⟩, List.mem_of_getElem? (i := 1750) (by decide +kernel), List.mem_of_getElem? (i := 2723) (by decide +kernel), List.mem_of_getElem? (i := 2724) (by decide +kernel)⟩
theorem lw_p177 : lw_okq (⟨"RailwayHouseModel", "anyMoves", "()Z"⟩, 146) := ⟨⟨by decide +kernel, by decide +kernel⟩, List.mem_of_getElem? (i := 1750) (by decide +kernel), List.mem_of_getElem? (i := 2727) (by decide +kernel), List.mem_of_getElem? (i := 2728) (by decide +kernel)⟩
theorem lw_p178 : lw_okq (⟨"RailwayHouseModel", "liesNow", "()I"⟩, 146) := ⟨⟨by decide +kernel, by decide +kernel⟩, List.mem_of_getElem? (i := 1750) (by decide +kernel), List.mem_of_getElem? (i := 2731) (by decide +kernel), List.mem_of_getElem? (i := 2732) (by decide +kernel)⟩
theorem lw_p179 : lw_okq (⟨"RailwayHouseModel", "copyChannel", "(II)V"⟩, 146) := ⟨⟨by decide +kernel, by decide +kernel⟩, List.mem_of_getElem? (i := 1750) (by decide +kernel), List.mem_of_getElem? (i := 2735) (by decide +kernel), List.mem_of_getElem? (i := 2736) (by decide +kernel)⟩
theorem lw_p180 : lw_okq (⟨"RailwayHouseModel", "takeFromDisk", "(II)V"⟩, 146) := ⟨⟨by decide +kernel, by decide +kernel⟩, List.mem_of_getElem? (i := 1750) (by decide +kernel), List.mem_of_getElem? (i := 2751) (by decide +kernel), List.mem_of_getElem? (i := 2752) (by decide +kernel)⟩
theorem lw_p181 : lw_okq (⟨"RailwayHouseModel", "proceedsAlone", "(I)Z"⟩, 146) := ⟨⟨by decide +kernel, by decide +kernel⟩, List.mem_of_getElem? (i := 1750) (by decide +kernel), List.mem_of_getElem? (i := 2759) (by decide +kernel), List.mem_of_getElem? (i := 2760) (by decide +kernel)⟩
theorem lw_p182 : lw_okq (⟨"RailwayHouseModel", "isBadClear", "(I)Z"⟩, 146) := ⟨⟨by decide +kernel, by decide +kernel⟩, List.mem_of_getElem? (i := 1750) (by decide +kernel), List.mem_of_getElem? (i := 2763) (by decide +kernel), List.mem_of_getElem? (i := 2764) (by decide +kernel)⟩
theorem lw_p183 : lw_okq (⟨"RailwayHouseModel", "anyTwice", "()Z"⟩, 146) := ⟨⟨by decide +kernel, by decide +kernel⟩, List.mem_of_getElem? (i := 1750) (by decide +kernel), List.mem_of_getElem? (i := 2767) (by decide +kernel), List.mem_of_getElem? (i := 2768) (by decide +kernel)⟩
theorem lw_p184 : lw_okq (⟨"RailwayHouseModel", "anyTorn", "()Z"⟩, 146) := ⟨⟨by decide +kernel, by decide +kernel⟩, List.mem_of_getElem? (i := 1750) (by decide +kernel), List.mem_of_getElem? (i := 2771) (by decide +kernel), List.mem_of_getElem? (i := 2772) (by decide +kernel)⟩
theorem lw_p185 : lw_okq (⟨"RailwayHouseModel", "anyTwoTrains", "()Z"⟩, 146) := ⟨⟨by decide +kernel, by decide +kernel⟩, List.mem_of_getElem? (i := 1750) (by decide +kernel), List.mem_of_getElem? (i := 2775) (by decide +kernel), List.mem_of_getElem? (i := 2776) (by decide +kernel)⟩
theorem lw_p186 : lw_okq (⟨"RailwayHouseModel", "findJourneys", "(II)V"⟩, 146) := ⟨⟨by decide +kernel, by decide +kernel⟩, List.mem_of_getElem? (i := 1750) (by decide +kernel), List.mem_of_getElem? (i := 2795) (by decide +kernel), List.mem_of_getElem? (i := 2796) (by decide +kernel)⟩
theorem lw_p187 : lw_okq (⟨"RailwayHouseModel", "goBehind", "(III)V"⟩, 146) := ⟨⟨by decide +kernel, by decide +kernel⟩, List.mem_of_getElem? (i := 1750) (by decide +kernel), List.mem_of_getElem? (i := 2799) (by decide +kernel), List.mem_of_getElem? (i := 2800) (by decide +kernel)⟩
theorem lw_p188 : lw_okq (⟨"RailwayHouseModel", "goFrom", "(IIIIJ)V"⟩, 146) := ⟨⟨by decide +kernel, by decide +kernel⟩, List.mem_of_getElem? (i := 1750) (by decide +kernel), List.mem_of_getElem? (i := 2803) (by decide +kernel), List.mem_of_getElem? (i := 2804) (by decide +kernel)⟩
theorem lw_p189 : lw_okq (⟨"RailwayHouseModel", "fareOf", "(III)I"⟩, 146) := ⟨⟨by decide +kernel, by decide +kernel⟩, List.mem_of_getElem? (i := 1750) (by decide +kernel), List.mem_of_getElem? (i := 2807) (by decide +kernel), List.mem_of_getElem? (i := 2808) (by decide +kernel)⟩
theorem lw_p190 : lw_okq (⟨"RailwayHouseModel", "offer", "(IIIJ)V"⟩, 146) := ⟨⟨by decide +kernel, by decide +kernel⟩, List.mem_of_getElem? (i := 1750) (by decide +kernel), List.mem_of_getElem? (i := 2811) (by decide +kernel), List.mem_of_getElem? (i := 2812) (by decide +kernel)⟩
theorem lw_p191 : lw_okq (⟨"RailwayHouseModel", "isBeaten", "(III)Z"⟩, 146) := ⟨⟨by decide +kernel, by decide +kernel⟩, List.mem_of_getElem? (i := 1750) (by decide +kernel), List.mem_of_getElem? (i := 2815) (by decide +kernel), List.mem_of_getElem? (i := 2816) (by decide +kernel)⟩
def lw_privs_12 : List (MethodName × Nat) := [(⟨"RailwayHouseModel", "voters", "()I"⟩, 146), (⟨"RailwayHouseModel", "anyMoves", "()Z"⟩, 146), (⟨"RailwayHouseModel", "liesNow", "()I"⟩, 146), (⟨"RailwayHouseModel", "copyChannel", "(II)V"⟩, 146), (⟨"RailwayHouseModel", "takeFromDisk", "(II)V"⟩, 146), (⟨"RailwayHouseModel", "proceedsAlone", "(I)Z"⟩, 146), (⟨"RailwayHouseModel", "isBadClear", "(I)Z"⟩, 146), (⟨"RailwayHouseModel", "anyTwice", "()Z"⟩, 146), (⟨"RailwayHouseModel", "anyTorn", "()Z"⟩, 146), (⟨"RailwayHouseModel", "anyTwoTrains", "()Z"⟩, 146), (⟨"RailwayHouseModel", "findJourneys", "(II)V"⟩, 146), (⟨"RailwayHouseModel", "goBehind", "(III)V"⟩, 146), (⟨"RailwayHouseModel", "goFrom", "(IIIIJ)V"⟩, 146), (⟨"RailwayHouseModel", "fareOf", "(III)I"⟩, 146), (⟨"RailwayHouseModel", "offer", "(IIIJ)V"⟩, 146), (⟨"RailwayHouseModel", "isBeaten", "(III)Z"⟩, 146)]
theorem lw_r12 : ∀ q ∈ lw_privs_12, lw_okq q := List.forall_mem_cons.mpr ⟨lw_p176, List.forall_mem_cons.mpr ⟨lw_p177, List.forall_mem_cons.mpr ⟨lw_p178, List.forall_mem_cons.mpr ⟨lw_p179, List.forall_mem_cons.mpr ⟨lw_p180, List.forall_mem_cons.mpr ⟨lw_p181, List.forall_mem_cons.mpr ⟨lw_p182, List.forall_mem_cons.mpr ⟨lw_p183, List.forall_mem_cons.mpr ⟨lw_p184, List.forall_mem_cons.mpr ⟨lw_p185, List.forall_mem_cons.mpr ⟨lw_p186, List.forall_mem_cons.mpr ⟨lw_p187, List.forall_mem_cons.mpr ⟨lw_p188, List.forall_mem_cons.mpr ⟨lw_p189, List.forall_mem_cons.mpr ⟨lw_p190, List.forall_mem_cons.mpr ⟨lw_p191, fun _ h => absurd h List.not_mem_nil⟩⟩⟩⟩⟩⟩⟩⟩⟩⟩⟩⟩⟩⟩⟩⟩
theorem lw_p192 : lw_okq (⟨"RailwayHouseModel", "addOption", "(II)V"⟩, 146) := ⟨⟨by decide +kernel, by decide +kernel⟩, List.mem_of_getElem? (i := 1750) (by decide +kernel), List.mem_of_getElem? (i := 2819) (by decide +kernel), List.mem_of_getElem? (i := 2820) (by decide +kernel)⟩
theorem lw_p193 : lw_okq (⟨"RailwayHouseModel", "isTaken", "(IIII)Z"⟩, 146) := ⟨⟨by decide +kernel, by decide +kernel⟩, List.mem_of_getElem? (i := 1750) (by decide +kernel), List.mem_of_getElem? (i := 2837) (by decide +kernel), List.mem_of_getElem? (i := 2838) (by decide +kernel)⟩
theorem lw_p194 : lw_okq (⟨"RailwayHouseModel", "holdsThere", "()I"⟩, 146) := ⟨⟨by decide +kernel, by decide +kernel⟩, List.mem_of_getElem? (i := 1750) (by decide +kernel), List.mem_of_getElem? (i := 2841) (by decide +kernel), List.mem_of_getElem? (i := 2842) (by decide +kernel)⟩
theorem lw_p195 : lw_okq (⟨"RailwayHouseModel", "costOf", "()I"⟩, 146) := ⟨⟨by decide +kernel, by decide +kernel⟩, List.mem_of_getElem? (i := 1750) (by decide +kernel), List.mem_of_getElem? (i := 2869) (by decide +kernel), List.mem_of_getElem? (i := 2870) (by decide +kernel)⟩
theorem lw_p196 : lw_okq (⟨"RailwayHouseModel", "nextOrder", "()Z"⟩, 146) := ⟨⟨by decide +kernel, by decide +kernel⟩, List.mem_of_getElem? (i := 1750) (by decide +kernel), List.mem_of_getElem? (i := 2876) (by decide +kernel), List.mem_of_getElem? (i := 2877) (by decide +kernel)⟩
def lw_privs_13 : List (MethodName × Nat) := [(⟨"RailwayHouseModel", "addOption", "(II)V"⟩, 146), (⟨"RailwayHouseModel", "isTaken", "(IIII)Z"⟩, 146), (⟨"RailwayHouseModel", "holdsThere", "()I"⟩, 146), (⟨"RailwayHouseModel", "costOf", "()I"⟩, 146), (⟨"RailwayHouseModel", "nextOrder", "()Z"⟩, 146)]
theorem lw_r13 : ∀ q ∈ lw_privs_13, lw_okq q := List.forall_mem_cons.mpr ⟨lw_p192, List.forall_mem_cons.mpr ⟨lw_p193, List.forall_mem_cons.mpr ⟨lw_p194, List.forall_mem_cons.mpr ⟨lw_p195, List.forall_mem_cons.mpr ⟨lw_p196, fun _ h => absurd h List.not_mem_nil⟩⟩⟩⟩⟩
def lw_privs : List (MethodName × Nat) := lw_privs_1 ++ (lw_privs_2 ++ (lw_privs_3 ++ (lw_privs_4 ++ (lw_privs_5 ++ (lw_privs_6 ++ (lw_privs_7 ++ (lw_privs_8 ++ (lw_privs_9 ++ (lw_privs_10 ++ (lw_privs_11 ++ (lw_privs_12 ++ (lw_privs_13))))))))))))
def lw_tbl : List Cond := k2_sels lw_privs ++ tables_1
theorem lw_privs_ok : ∀ q ∈ lw_privs, lw_okq q := by
  show ∀ q ∈ lw_privs_1 ++ (lw_privs_2 ++ (lw_privs_3 ++ (lw_privs_4 ++ (lw_privs_5 ++ (lw_privs_6 ++ (lw_privs_7 ++ (lw_privs_8 ++ (lw_privs_9 ++ (lw_privs_10 ++ (lw_privs_11 ++ (lw_privs_12 ++ (lw_privs_13)))))))))))), lw_okq q
  exact List.forall_mem_append.mpr ⟨lw_r1, List.forall_mem_append.mpr ⟨lw_r2, List.forall_mem_append.mpr ⟨lw_r3, List.forall_mem_append.mpr ⟨lw_r4, List.forall_mem_append.mpr ⟨lw_r5, List.forall_mem_append.mpr ⟨lw_r6, List.forall_mem_append.mpr ⟨lw_r7, List.forall_mem_append.mpr ⟨lw_r8, List.forall_mem_append.mpr ⟨lw_r9, List.forall_mem_append.mpr ⟨lw_r10, List.forall_mem_append.mpr ⟨lw_r11, List.forall_mem_append.mpr ⟨lw_r12, lw_r13⟩⟩⟩⟩⟩⟩⟩⟩⟩⟩⟩⟩
end
section
/-! A machine of abstract states: a run of it that ends in 'true' stands for every run of the real machine that it covers -/
abbrev zAV : Type := Nat ⊕ (Nat ⊕ (Option Nat ⊕ Nat))
abbrev zAE : Type := (Nat × List zAV) ⊕ (Nat × Nat × List zAV)
abbrev zEnv : Type := List (Nat × Nat)
abbrev zEnt : Type := Nat × Jvm.ClassFile.Instr × Nat × Nat × Nat
abbrev zMR : Type := MethodName × ByteArray × Nat × Option FieldType × Room × Nat × List zEnt
abbrev zK : Type := zEnv → Option zAV → List zAE → Bool
abbrev zKS : Type := Nat → List (Nat × zAV) → List zAV → Nat → Nat → zEnv → List zAE → Bool
abbrev zLX : Type := Nat × zKS
abbrev zGo : Type := zLX → zMR → List zEnt → Nat → List (Nat × zAV) → List zAV → Nat → Nat → zEnv → List zAE → zK → Bool
abbrev z_y (r : zMR) : MethodName := r.1
abbrev z_cc (r : zMR) : ByteArray := r.2.1
abbrev z_mL (r : zMR) : Nat := r.2.2.1
abbrev z_rt (r : zMR) : Option FieldType := r.2.2.2.1
abbrev z_rm (r : zMR) : Room := r.2.2.2.2.1
abbrev z_ci (r : zMR) : Nat := r.2.2.2.2.2.1
abbrev z_cd (r : zMR) : List zEnt := r.2.2.2.2.2.2
abbrev z_null : zAV := .inr (.inr (.inl none))
abbrev z_any : zAV := .inr (.inr (.inr 0))
abbrev z_lng : zAV := .inr (.inr (.inr 1))
abbrev z_scr : zAV := .inr (.inr (.inr 2))
abbrev z_rf (k : Nat) : zAV := .inr (.inr (.inl (some k)))
abbrev z_sy (i : Nat) : zAV := .inr (.inl i)
def z_l0 : zLX := (0, fun _ _ _ _ _ _ _ => false)
-- numbers are made plain before they are kept
noncomputable def z_frc {β : Type} (n : Nat) (k : Nat → β) : β := Nat.casesOn (motive := fun _ => β) n (k 0) (fun m => k (Nat.succ m))
theorem z_frc_eq {β : Type} (n : Nat) (k : Nat → β) : z_frc n k = k n := by cases n <;> rfl
def z_un (x : Int32) : Nat := x.toBitVec.toNat
def z_bu (u : Nat) : Nat := (u + 2147483648) % 4294967296
-- lists
noncomputable def z_at {α : Type} (l : List α) : Nat → Option α :=
  List.rec (motive := fun _ => Nat → Option α) (fun _ => none) (fun x _ ih i => Nat.casesOn (motive := fun _ => Option α) i (some x) (fun j => ih j)) l
theorem z_at_eq {α : Type} (l : List α) : ∀ i : Nat, z_at l i = l[i]? := by
  induction l with
  | nil => intro i; rfl
  | cons x xs ih =>
    intro i
    cases i with
    | zero => rfl
    | succ j => exact (ih j).trans (by simp)
noncomputable def z_gk {α : Type} (d : α) (l : List α) : Nat → (α → Bool) → Bool :=
  List.rec (motive := fun _ => Nat → (α → Bool) → Bool) (fun _ k => k d) (fun x _ ih i k => Nat.casesOn (motive := fun _ => Bool) i (k x) (fun j => ih j k)) l
theorem z_gk_eq {α : Type} (d : α) (l : List α) : ∀ (i : Nat) (k : α → Bool), z_gk d l i k = k (l.getD i d) := by
  induction l with
  | nil => intro i k; rfl
  | cons x xs ih =>
    intro i k
    cases i with
    | zero => rfl
    | succ j => exact (ih j k).trans (by simp)
noncomputable def z_set {α β : Type} (l : List α) : Nat → α → (List α → β) → β :=
  List.rec (motive := fun _ => Nat → α → (List α → β) → β) (fun _ _ k => k []) (fun x xs ih i v k => Nat.casesOn (motive := fun _ => β) i (k (v :: xs)) (fun j => ih j v (fun t => k (x :: t)))) l
theorem z_set_eq {α β : Type} (l : List α) : ∀ (i : Nat) (v : α) (k : List α → β), z_set l i v k = k (l.set i v) := by
  induction l with
  | nil => intro i v k; rfl
  | cons x xs ih =>
    intro i v k
    cases i with
    | zero => rfl
    | succ j => exact ih j v (fun t => k (x :: t))
noncomputable def z_pad {β : Type} (d v : zAV) (i : Nat) : (List zAV → β) → β :=
  Nat.rec (motive := fun _ => (List zAV → β) → β) (fun k => k [v]) (fun _ ih k => ih (fun t => k (d :: t))) i
noncomputable def z_pst {β : Type} (d v : zAV) (l : List zAV) : Nat → (List zAV → β) → β :=
  List.rec (motive := fun _ => Nat → (List zAV → β) → β) (fun i k => z_pad d v i k) (fun x xs ih i k => Nat.casesOn (motive := fun _ => β) i (k (v :: xs)) (fun j => ih j (fun t => k (x :: t)))) l
theorem z_pad_eq {β : Type} (d v : zAV) (i : Nat) : ∃ l' : List zAV, (∀ k : List zAV → β, z_pad d v i k = k l') ∧ ∀ j, l'.getD j d = if j = i then v else d := by
  induction i with
  | zero =>
    refine ⟨[v], fun _ => rfl, fun j => ?_⟩
    cases j <;> simp
  | succ i ih =>
    obtain ⟨l', h1, h2⟩ := ih
    refine ⟨d :: l', fun k => h1 (fun t => k (d :: t)), fun j => ?_⟩
    cases j with
    | zero => simp
    | succ j => simpa using h2 j
theorem z_pst_eq {β : Type} (d v : zAV) (l : List zAV) : ∀ i : Nat, ∃ l' : List zAV, (∀ k : List zAV → β, z_pst d v l i k = k l') ∧ ∀ j, l'.getD j d = if j = i then v else l.getD j d := by
  induction l with
  | nil =>
    intro i
    obtain ⟨l', h1, h2⟩ := z_pad_eq (β := β) d v i
    exact ⟨l', h1, fun j => by rw [h2]; simp⟩
  | cons x xs ih =>
    intro i
    cases i with
    | zero =>
      refine ⟨v :: xs, fun _ => rfl, fun j => ?_⟩
      cases j <;> simp
    | succ i =>
      obtain ⟨l', h1, h2⟩ := ih i
      refine ⟨x :: l', fun k => h1 (fun t => k (x :: t)), fun j => ?_⟩
      cases j with
      | zero => simp
      | succ j => simpa using h2 j
noncomputable def z_lk (lo : List (Nat × zAV)) (i : Nat) : Option zAV :=
  List.rec (motive := fun _ => Option zAV) none (fun q _ ih => cond (Nat.beq q.1 i) (some q.2) ih) lo
noncomputable def z_del {β : Type} (lo : List (Nat × zAV)) (i : Nat) : (List (Nat × zAV) → β) → β :=
  List.rec (motive := fun _ => (List (Nat × zAV) → β) → β) (fun k => k []) (fun q _ ih k => cond (Nat.beq q.1 i) (ih k) (ih (fun t => k (q :: t)))) lo
theorem z_del_eq {β : Type} (lo : List (Nat × zAV)) (i : Nat) : ∀ k : List (Nat × zAV) → β, z_del lo i k = k (lo.filter (fun q => !(Nat.beq q.1 i))) := by
  induction lo with
  | nil => intro k; rfl
  | cons q qs ih =>
    intro k
    show cond (Nat.beq q.1 i) (z_del qs i k) (z_del qs i (fun t => k (q :: t))) = _
    rw [ih k, ih (fun t => k (q :: t))]
    cases h : Nat.beq q.1 i <;> simp [h]
noncomputable def z_from (l : List zEnt) (t : Nat) : List zEnt :=
  List.rec (motive := fun _ => List zEnt) [] (fun e es ih => cond (Nat.beq e.1 t) (e :: es) ih) l
theorem z_from_sub (l : List zEnt) (t : Nat) : ∀ x ∈ z_from l t, x ∈ l := by
  induction l with
  | nil => intro x h; exact h
  | cons e es ih =>
    intro x h
    have h : x ∈ cond (Nat.beq e.1 t) (e :: es) (z_from es t) := h
    cases hb : Nat.beq e.1 t with
    | true => rw [hb] at h; exact h
    | false => rw [hb] at h; exact List.mem_cons_of_mem _ (ih x h)
noncomputable def z_en (l : List zAV) : Nat → List (Nat × zAV) :=
  List.rec (motive := fun _ => Nat → List (Nat × zAV)) (fun _ => []) (fun a _ ih i => (i, a) :: ih (Nat.succ i)) l
/-- n values off the stack, the deepest first -/
noncomputable def z_pop (n : Nat) : List zAV → List zAV → (List zAV → List zAV → Bool) → Bool :=
  Nat.rec (motive := fun _ => List zAV → List zAV → (List zAV → List zAV → Bool) → Bool) (fun acc st k => k acc st) (fun _ ih acc st k => match st with | [] => false | a :: t => ih (a :: acc) t k) n
-- kinds of values
def z_isI : zAV → Bool
  | .inl _ => true
  | .inr (.inl _) => true
  | .inr (.inr (.inl _)) => false
  | .inr (.inr (.inr n)) => Nat.beq n 0
def z_isR : zAV → Bool
  | .inl _ => false
  | .inr (.inl _) => false
  | .inr (.inr (.inl _)) => true
  | .inr (.inr (.inr n)) => Nat.ble 2 n
def z_c1 : zAV → Bool
  | .inr (.inr (.inr n)) => !(Nat.beq n 1)
  | _ => true
def z_isB : zAV → Bool
  | .inl 0 => true
  | .inl 1 => true
  | _ => false
def z_isL : zAV → Bool
  | .inr (.inr (.inr n)) => Nat.beq n 1
  | _ => false
def z_isO : zAV → Bool
  | .inr (.inr (.inl _)) => true
  | _ => false
def z_fit : FieldType → zAV → Bool
  | .int, a => z_isI a
  | .boolean, a => z_isB a
  | .long, a => z_isL a
  | .object _, a => z_isO a
  | .array _, a => z_isO a
  | _, _ => false
noncomputable def z_len (l : List zAV) : Nat := List.rec (motive := fun _ => Nat) 0 (fun _ _ ih => Nat.succ ih) l
noncomputable def z_all (f : zAV → Bool) (l : List zAV) : Bool := List.rec (motive := fun _ => Bool) true (fun a _ ih => and (f a) ih) l
-- what an environment says of a sign
def z_rs (env : zEnv) (a : zAV) : zAV := match a with
  | .inr (.inl i) => (match env[i]? with
    | some q => cond (Nat.beq q.1 q.2) (.inl (z_bu q.1)) (.inr (.inl i))
    | none => .inr (.inl i))
  | a => a
noncomputable def z_spl (i : Nat) (env : zEnv) (t : Nat) (L G : zEnv → Bool) : Bool := match env[i]? with
  | some (lo, hi) => and (cond (Nat.blt lo t) (z_frc (Nat.min hi (t - 1)) fun h => z_set env i (lo, h) L) true) (cond (Nat.ble t hi) (z_frc (Nat.max lo t) fun l => z_set env i (l, hi) G) true)
  | none => false
noncomputable def z_brS (c : Jvm.ClassFile.Cond) (i : Nat) (v : Nat) (env : zEnv) (T F : zEnv → Bool) : Bool := match c with
  | .lt => z_spl i env v T F
  | .ge => z_spl i env v F T
  | .le => z_spl i env (v + 1) T F
  | .gt => z_spl i env (v + 1) F T
  | .eq => z_spl i env v F (fun e1 => z_spl i e1 (v + 1) T F)
  | .ne => z_spl i env v T (fun e1 => z_spl i e1 (v + 1) F T)
def z_flip : Jvm.ClassFile.Cond → Jvm.ClassFile.Cond
  | .lt => .gt
  | .ge => .le
  | .le => .ge
  | .gt => .lt
  | .eq => .eq
  | .ne => .ne
def z_cmp (c : Jvm.ClassFile.Cond) (x y : Nat) : Bool := match c with
  | .eq => Nat.beq x y
  | .ne => !(Nat.beq x y)
  | .lt => Nat.blt x y
  | .ge => Nat.ble y x
  | .gt => Nat.blt y x
  | .le => Nat.ble x y
noncomputable def z_alR (lo n : Nat) (f : Nat → Bool) : Bool := Nat.rec (motive := fun _ => Bool) true (fun j ih => and (f (lo + j)) ih) n
noncomputable def z_con (env : zEnv) (i : Nat) (re : zEnv → Bool) : Bool := match env[i]? with
  | some q => cond (Nat.ble (q.2 - q.1) 64) (z_alR q.1 (q.2 - q.1 + 1) (fun v => z_frc v fun v => z_set env i (v, v) re)) false
  | none => false
noncomputable def z_br (c : Jvm.ClassFile.Cond) (a b : zAV) (env : zEnv) (re T F : zEnv → Bool) : Bool := match a, b with
  | .inl x, .inl y => cond (z_cmp c (z_bu x) (z_bu y)) (T env) (F env)
  | .inr (.inl i), .inl y => z_brS c i (z_bu y) env T F
  | .inl x, .inr (.inl i) => z_brS (z_flip c) i (z_bu x) env T F
  | .inr (.inl i), .inr (.inl _) => z_con env i re
  | _, _ => false
/-- a place in a row: known, or a sign whose values are gone through one by one -/
noncomputable def z_ix (env : zEnv) (a : zAV) (n : Nat) (re : zEnv → Bool) (k : Nat → Bool) : Bool := match z_rs env a with
  | .inl u => cond (and (Nat.blt u n) (Nat.ble n 2147483647)) (k u) false
  | .inr (.inl i) => z_con env i re
  | _ => false
noncomputable def z_bin (f : Int32 → Int32 → Int32) (env : zEnv) (a b : zAV) (k : zAV → Bool) : Bool := match z_rs env a, z_rs env b with
  | .inl x, .inl y => z_frc (z_un (f (nI x) (nI y))) (fun u => k (.inl u))
  | a', b' => and (and (z_isI a') (z_isI b')) (k z_any)
def z_dfA : Nat → zAV
  | 0 => .inl 0
  | 1 => .inl 0
  | 2 => .inl 0
  | 3 => z_lng
  | _ => z_null
def z_stA (kd : Nat) (a : zAV) : Option zAV := match kd with
  | 0 => cond (z_isI a) (some a) none
  | 1 => cond (z_isI a) (some z_any) none
  | 2 => cond (z_isB a) (some a) none
  | _ => none
noncomputable def z_akd (t : ArrayType) : Option Nat := match t with
  | .int => some 0
  | .byte => some 1
  | .boolean => some 2
  | .long => some 3
  | _ => none
noncomputable def z_ld (f : zAV → Bool) (lo : List (Nat × zAV)) (j : Nat) (k : zAV → Bool) : Bool := match z_lk lo j with
  | some a => cond (f a) (k a) false
  | none => false
noncomputable def z_sto (f : zAV → Bool) (mr : zMR) (lo : List (Nat × zAV)) (j : Nat) (st : List zAV) (k : List (Nat × zAV) → List zAV → Bool) : Bool := match st with
  | a :: t => cond (and (f a) (Nat.blt j (z_mL mr))) (z_del lo j fun lo' => k ((j, a) :: lo') t) false
  | [] => false
noncomputable def z_b2 (st : List zAV) (k : zAV → zAV → List zAV → Bool) : Bool := match st with
  | b :: a :: t => k a b t
  | _ => false
noncomputable def z_app (w : List zAE) (e : zAE) : (List zAE → Bool) → Bool :=
  List.rec (motive := fun _ => (List zAE → Bool) → Bool) (fun k => k [e]) (fun x _ ih k => ih (fun t => k (x :: t))) w
theorem z_app_eq (w : List zAE) (e : zAE) : ∀ k, z_app w e k = k (w ++ [e]) := by
  induction w with
  | nil => intro k; rfl
  | cons x xs ih => intro k; exact ih (fun t => k (x :: t))
noncomputable def z_lnE (w : List zAE) : Nat := List.rec (motive := fun _ => Nat) 0 (fun _ _ ih => Nat.succ ih) w
theorem z_lnE_eq (w : List zAE) : z_lnE w = w.length := by
  induction w with
  | nil => rfl
  | cons x xs ih => show Nat.succ (z_lnE xs) = _; rw [ih]; rfl
theorem z_len_eq (w : List zAV) : z_len w = w.length := by
  induction w with
  | nil => rfl
  | cons x xs ih => show Nat.succ (z_len xs) = _; rw [ih]; rfl
/-- a new cell: the stack gets its place -/
noncomputable def z_mk (mr : zMR) (ce sl N : Nat) (w : List zAE) (e : zAE) (k : Nat → List zAE → Nat → Nat → Bool) : Bool :=
  cond (and (Nat.ble (ce + 1) (z_rm mr).cells) (Nat.ble (sl + N) (z_rm mr).slots)) (z_frc (z_lnE w) fun a => z_app w e fun w' => z_frc (ce + 1) fun ce' => z_frc (sl + N) fun sl' => k a w' ce' sl') false
def z_arg (a : zAV) : Bool := or (z_isI a) (z_isO a)
noncomputable def z_call (go : zGo) (mr cm : zMR) (as t : List zAV) (ce sl : Nat) (env : zEnv) (w : List zAE) (cont : zEnv → List zAV → Nat → Nat → List zAE → Bool) : Bool :=
  cond (and (and (and (z_all z_arg as) (and (z_all z_c1 t) (Nat.ble (z_len t) 8))) (Nat.ble (z_len as) (z_mL cm))) (and (and (Nat.ble ((z_rm cm).frames + 1) (z_rm mr).frames) (Nat.ble (8 + (z_mL cm + 11) + (z_rm cm).locals) (z_rm mr).locals)) (and (Nat.ble (ce + (z_rm cm).cells) (z_rm mr).cells) (Nat.ble (sl + (z_rm cm).slots) (z_rm mr).slots))))
    (z_frc (ce + (z_rm cm).cells) fun ce' => z_frc (sl + (z_rm cm).slots) fun sl' => go z_l0 cm (z_cd cm) 0 (z_en as 0) [] 0 0 env w (fun env' rv w' => match rv with | none => cont env' t ce' sl' w' | some a => cont env' (a :: t) ce' sl' w')) false
noncomputable def z_p1 (st : List zAV) (f : zAV → List zAV → Bool) : Bool := match st with
  | a :: t => f a t
  | [] => false
noncomputable def z_pr (st : List zAV) (f : Nat → List zAV → Bool) : Bool := match st with
  | .inr (.inr (.inl (some a))) :: t => f a t
  | _ => false
noncomputable def z_one (st : List zAV) (f : zAV → Bool) : Bool := match st with
  | [a] => f a
  | _ => false
noncomputable def z_op {α : Type} (o : Option α) (f : α → Bool) : Bool := match o with
  | some a => f a
  | none => false
noncomputable def z_opl {α : Type} (l : List α) (i : Nat) (f : α → Bool) : Bool := z_op (z_at l i) f
noncomputable def z_ob (w : List zAE) (a : Nat) (f : Nat → List zAV → Bool) : Bool := match z_at w a with
  | some (.inl (ci, fs)) => f ci fs
  | _ => false
noncomputable def z_ar (w : List zAE) (a : Nat) (f : Nat → Nat → List zAV → Bool) : Bool := match z_at w a with
  | some (.inr (kd, n, pr)) => f kd n pr
  | _ => false
def z_nul (v : zAV) (A B : Bool) : Bool := match v with
  | .inr (.inr (.inl none)) => A
  | .inr (.inr (.inl (some _))) => B
  | _ => false
noncomputable def z_rsc (v : zAV) (f : Nat → Bool) (g : Bool) : Bool := match v with
  | .inr (.inr (.inl (some a))) => f a
  | .inr (.inr (.inr 2)) => g
  | _ => false
noncomputable def z_lx (lx : zLX) (f : Nat → Bool) : Bool := match lx.1 with
  | 0 => false
  | L + 1 => f L
noncomputable def z_ks (v : zAV) (f g : Nat → Bool) : Bool := match v with
  | .inl u => f u
  | .inr (.inl j) => g j
  | _ => false
def z_rti (rt : Option FieldType) (a : zAV) : Bool := match rt with
  | some .int => z_isI a
  | some .boolean => z_isB a
  | _ => false
def z_rto (rt : Option FieldType) (a : zAV) : Bool := match rt with
  | some (.object _) => z_isO a
  | some (.array _) => z_isO a
  | _ => false
def z_nil (st : List zAV) (rt : Option FieldType) : Bool := match st, rt with
  | [], none => true
  | _, _ => false
/-- past a switch: to the place that an offset names -/
noncomputable def z_to (q : Nat) (o : Int) (f : Nat → Bool) : Bool := z_frc ((q : Int) + o).toNat fun tg => cond (decide ((q : Int) + o = (tg : Int))) (f tg) false
def z_srt (ps : Array (Int × Int)) : Bool := (ps.toList.zip (ps.toList.drop 1)).all (fun (a, next) => a.1 < next.1)
abbrev zH : Type := List vw_C → List (Nat → FieldType) → List (List zAV) → List zMR → zGo → (zEnv → Bool) → zLX → zMR → Nat → Nat → Nat → Nat → List zEnt → List (Nat × zAV) → List zAV → Nat → Nat → zEnv → List zAE → zK → Bool
def z_no : zH := fun _ _ _ _ _ _ _ _ _ _ _ _ _ _ _ _ _ _ _ _ => false
noncomputable def z_h_iconst (n : Int) : zH := fun cls zty zdv ms go re lx mr q x1 x2 x3 r lo st ce sl env w k =>
  z_frc (z_un (Int32.ofInt n)) fun u => go lx mr r (q + 1) lo (.inl u :: st) ce sl env w k
noncomputable def z_h_bipush (n : Int) : zH := fun cls zty zdv ms go re lx mr q x1 x2 x3 r lo st ce sl env w k =>
  z_frc (z_un (Int8.ofInt n).toInt32) fun u => go lx mr r (q + 2) lo (.inl u :: st) ce sl env w k
noncomputable def z_h_sipush (n : Int) : zH := fun cls zty zdv ms go re lx mr q x1 x2 x3 r lo st ce sl env w k =>
  z_frc (z_un (Int16.ofInt n).toInt32) fun u => go lx mr r (q + 3) lo (.inl u :: st) ce sl env w k
noncomputable def z_h_ldc (_ : Nat) : zH := fun cls zty zdv ms go re lx mr q x1 x2 x3 r lo st ce sl env w k =>
  z_frc x1 fun u => go lx mr r (q + 2) lo (.inl u :: st) ce sl env w k
noncomputable def z_h_lconst (_ : Fin 2) : zH := fun cls zty zdv ms go re lx mr q x1 x2 x3 r lo st ce sl env w k =>
  go lx mr r (q + 1) lo (z_lng :: st) ce sl env w k
noncomputable def z_h_aconst_null : zH := fun cls zty zdv ms go re lx mr q x1 x2 x3 r lo st ce sl env w k =>
  go lx mr r (q + 1) lo (z_null :: st) ce sl env w k
noncomputable def z_h_iload_n (j : Fin 4) : zH := fun cls zty zdv ms go re lx mr q x1 x2 x3 r lo st ce sl env w k =>
  z_ld z_isI lo j.val fun a => go lx mr r (q + 1) lo (a :: st) ce sl env w k
noncomputable def z_h_iload (j : Nat) : zH := fun cls zty zdv ms go re lx mr q x1 x2 x3 r lo st ce sl env w k =>
  z_ld z_isI lo j fun a => go lx mr r (q + 2) lo (a :: st) ce sl env w k
noncomputable def z_h_aload_n (j : Fin 4) : zH := fun cls zty zdv ms go re lx mr q x1 x2 x3 r lo st ce sl env w k =>
  z_ld z_isR lo j.val fun a => go lx mr r (q + 1) lo (a :: st) ce sl env w k
noncomputable def z_h_aload (j : Nat) : zH := fun cls zty zdv ms go re lx mr q x1 x2 x3 r lo st ce sl env w k =>
  z_ld z_isR lo j fun a => go lx mr r (q + 2) lo (a :: st) ce sl env w k
noncomputable def z_h_istore_n (j : Fin 4) : zH := fun cls zty zdv ms go re lx mr q x1 x2 x3 r lo st ce sl env w k =>
  z_sto z_isI mr lo j.val st fun lo' t => go lx mr r (q + 1) lo' t ce sl env w k
noncomputable def z_h_istore (j : Nat) : zH := fun cls zty zdv ms go re lx mr q x1 x2 x3 r lo st ce sl env w k =>
  z_sto z_isI mr lo j st fun lo' t => go lx mr r (q + 2) lo' t ce sl env w k
noncomputable def z_h_astore_n (j : Fin 4) : zH := fun cls zty zdv ms go re lx mr q x1 x2 x3 r lo st ce sl env w k =>
  z_sto z_isO mr lo j.val st fun lo' t => go lx mr r (q + 1) lo' t ce sl env w k
noncomputable def z_h_astore (j : Nat) : zH := fun cls zty zdv ms go re lx mr q x1 x2 x3 r lo st ce sl env w k =>
  z_sto z_isO mr lo j st fun lo' t => go lx mr r (q + 2) lo' t ce sl env w k
noncomputable def z_h_iinc (j : Nat) (n : Int) : zH := fun cls zty zdv ms go re lx mr q x1 x2 x3 r lo st ce sl env w k =>
  z_ld z_isI lo j fun a => z_bin (fun x y => x + y) env a (.inl (z_un (Int32.ofInt n))) fun v => cond (Nat.blt j (z_mL mr)) (z_del lo j fun lo' => go lx mr r (q + 3) ((j, v) :: lo') st ce sl env w k) false
noncomputable def z_h_iadd : zH := fun cls zty zdv ms go re lx mr q x1 x2 x3 r lo st ce sl env w k =>
  z_b2 st fun a b t => z_bin (fun x y => x + y) env a b fun v => go lx mr r (q + 1) lo (v :: t) ce sl env w k
noncomputable def z_h_isub : zH := fun cls zty zdv ms go re lx mr q x1 x2 x3 r lo st ce sl env w k =>
  z_b2 st fun a b t => z_bin (fun x y => x - y) env a b fun v => go lx mr r (q + 1) lo (v :: t) ce sl env w k
noncomputable def z_h_imul : zH := fun cls zty zdv ms go re lx mr q x1 x2 x3 r lo st ce sl env w k =>
  z_b2 st fun a b t => z_bin (fun x y => x * y) env a b fun v => go lx mr r (q + 1) lo (v :: t) ce sl env w k
noncomputable def z_h_iand : zH := fun cls zty zdv ms go re lx mr q x1 x2 x3 r lo st ce sl env w k =>
  z_b2 st fun a b t => z_bin (fun x y => x &&& y) env a b fun v => go lx mr r (q + 1) lo (v :: t) ce sl env w k
noncomputable def z_h_ior : zH := fun cls zty zdv ms go re lx mr q x1 x2 x3 r lo st ce sl env w k =>
  z_b2 st fun a b t => z_bin (fun x y => x ||| y) env a b fun v => go lx mr r (q + 1) lo (v :: t) ce sl env w k
noncomputable def z_h_ishl : zH := fun cls zty zdv ms go re lx mr q x1 x2 x3 r lo st ce sl env w k =>
  z_b2 st fun a b t => z_bin (fun x y => x <<< (y &&& 31)) env a b fun v => go lx mr r (q + 1) lo (v :: t) ce sl env w k
noncomputable def z_h_ishr : zH := fun cls zty zdv ms go re lx mr q x1 x2 x3 r lo st ce sl env w k =>
  z_b2 st fun a b t => z_bin (fun x y => x >>> (y &&& 31)) env a b fun v => go lx mr r (q + 1) lo (v :: t) ce sl env w k
noncomputable def z_h_iushr : zH := fun cls zty zdv ms go re lx mr q x1 x2 x3 r lo st ce sl env w k =>
  z_b2 st fun a b t => z_bin (fun x y => (x.toUInt32 >>> (y.toUInt32 &&& Int32.toUInt32 31)).toInt32) env a b fun v => go lx mr r (q + 1) lo (v :: t) ce sl env w k
noncomputable def z_h_irem : zH := fun cls zty zdv ms go re lx mr q x1 x2 x3 r lo st ce sl env w k =>
  z_b2 st fun a b t => z_ks (z_rs env b) (fun y => cond (Nat.beq (z_bu y) 2147483648) false (z_bin (fun x y => x - x / y * y) env a (.inl y) fun v => go lx mr r (q + 1) lo (v :: t) ce sl env w k)) (fun _ => false)
noncomputable def z_h_i2b : zH := fun cls zty zdv ms go re lx mr q x1 x2 x3 r lo st ce sl env w k =>
  z_p1 st fun a t => z_bin (fun x _ => x.toInt8.toInt32) env a (.inl 0) fun v => go lx mr r (q + 1) lo (v :: t) ce sl env w k
noncomputable def z_h_ifCond (c : Jvm.ClassFile.Cond) (_ : Int) : zH := fun cls zty zdv ms go re lx mr q x1 x2 x3 r lo st ce sl env w k =>
  z_p1 st fun a t => z_br c (z_rs env a) (.inl 0) env re (fun e => go lx mr (z_from (z_cd mr) x1) x1 lo t ce sl e w k) (fun e => go lx mr r (q + 3) lo t ce sl e w k)
noncomputable def z_h_if_icmp (c : Jvm.ClassFile.Cond) (_ : Int) : zH := fun cls zty zdv ms go re lx mr q x1 x2 x3 r lo st ce sl env w k =>
  z_b2 st fun a b t => z_br c (z_rs env a) (z_rs env b) env re (fun e => go lx mr (z_from (z_cd mr) x1) x1 lo t ce sl e w k) (fun e => go lx mr r (q + 3) lo t ce sl e w k)
noncomputable def z_h_ifnull (_ : Int) : zH := fun cls zty zdv ms go re lx mr q x1 x2 x3 r lo st ce sl env w k =>
  z_p1 st fun v t => z_nul v (go lx mr (z_from (z_cd mr) x1) x1 lo t ce sl env w k) (go lx mr r (q + 3) lo t ce sl env w k)
noncomputable def z_h_ifnonnull (_ : Int) : zH := fun cls zty zdv ms go re lx mr q x1 x2 x3 r lo st ce sl env w k =>
  z_p1 st fun v t => z_nul v (go lx mr r (q + 3) lo t ce sl env w k) (go lx mr (z_from (z_cd mr) x1) x1 lo t ce sl env w k)
noncomputable def z_h_goto (_ : Int) : zH := fun cls zty zdv ms go re lx mr q x1 x2 x3 r lo st ce sl env w k =>
  go lx mr (z_from (z_cd mr) x1) x1 lo st ce sl env w k
noncomputable def z_h_dup : zH := fun cls zty zdv ms go re lx mr q x1 x2 x3 r lo st ce sl env w k =>
  z_p1 st fun a t => cond (z_c1 a) (go lx mr r (q + 1) lo (a :: a :: t) ce sl env w k) false
noncomputable def z_h_tableswitch (d : Int) (l0 : Int) (h0 : Int) (offs : Array Int) : zH := fun cls zty zdv ms go re lx mr q x1 x2 x3 r lo st ce sl env w k =>
  z_p1 st fun a t => z_ks (z_rs env a)
        (fun u => cond (or (decide ((nI u).toInt < l0)) (decide (h0 < (nI u).toInt))) (z_to q d fun tg => go lx mr (z_from (z_cd mr) tg) tg lo t ce sl env w k) (z_op offs[((nI u).toInt - l0).toNat]? fun o => z_to q o fun tg => go lx mr (z_from (z_cd mr) tg) tg lo t ce sl env w k))
        (fun j => cond (and (decide ((x2 : Int) = l0 + 2147483648)) (decide ((x3 : Int) = h0 + 2147483649))) (z_to q d fun tg => z_spl j env x2 (fun e => go lx mr (z_from (z_cd mr) tg) tg lo t ce sl e w k) (fun e => z_spl j e x3 (fun e => z_con e j re) (fun e => go lx mr (z_from (z_cd mr) tg) tg lo t ce sl e w k))) false)
noncomputable def z_h_lookupswitch (d : Int) (ps : Array (Int × Int)) : zH := fun cls zty zdv ms go re lx mr q x1 x2 x3 r lo st ce sl env w k =>
  z_p1 st fun a t => z_ks (z_rs env a)
        (fun u => cond (z_srt ps) (z_to q (Op.lookupswitch.offset ps.toList d (nI u).toInt) fun tg => go lx mr (z_from (z_cd mr) tg) tg lo t ce sl env w k) false)
        (fun j => cond (and (z_srt ps) (ps.toList.all (fun p => and (decide ((x2 : Int) ≤ p.1 + 2147483648)) (decide (p.1 + 2147483648 < (x3 : Int)))))) (z_to q d fun tg => z_spl j env x2 (fun e => go lx mr (z_from (z_cd mr) tg) tg lo t ce sl e w k) (fun e => z_spl j e x3 (fun e => z_con e j re) (fun e => go lx mr (z_from (z_cd mr) tg) tg lo t ce sl e w k))) false)
noncomputable def z_h_getfield (_ : Nat) : zH := fun cls zty zdv ms go re lx mr q x1 x2 x3 r lo st ce sl env w k =>
  z_pr st fun a t => z_ob w a fun ci fs => cond (Nat.beq ci x1) (z_opl fs x2 fun v => go lx mr r (q + 3) lo (v :: t) ce sl env w k) false
noncomputable def z_h_putfield (_ : Nat) : zH := fun cls zty zdv ms go re lx mr q x1 x2 x3 r lo st ce sl env w k =>
  z_p1 st fun v st1 => z_pr st1 fun a t => z_ob w a fun ci fs => cond (Nat.beq ci x1) (z_opl fs x2 fun _ => z_opl zty x1 fun ty => cond (z_fit (ty x2) v) (z_set fs x2 v fun fs' => z_set w a (.inl (ci, fs')) fun w' => go lx mr r (q + 3) lo t ce sl env w' k) false) false
noncomputable def z_h_new (_ : Nat) : zH := fun cls zty zdv ms go re lx mr q x1 x2 x3 r lo st ce sl env w k =>
  z_opl cls x1 fun c => z_opl zdv x1 fun dv => z_mk mr ce sl c.2.2 w (.inl (x1, dv)) fun a w' ce' sl' => go lx mr r (q + 3) lo (z_rf a :: st) ce' sl' env w' k
noncomputable def z_h_newarray (ty : ArrayType) : zH := fun cls zty zdv ms go re lx mr q x1 x2 x3 r lo st ce sl env w k =>
  z_p1 st fun n t => z_ks (z_rs env n) (fun u => z_op (z_akd ty) fun kd => cond (Nat.ble u 60000000) (z_mk mr ce sl u w (.inr (kd, u, [])) fun a w' ce' sl' => go lx mr r (q + 2) lo (z_rf a :: t) ce' sl' env w' k) false) (fun _ => false)
noncomputable def z_h_anewarray (_ : Nat) : zH := fun cls zty zdv ms go re lx mr q x1 x2 x3 r lo st ce sl env w k =>
  z_p1 st fun n t => z_ks (z_rs env n) (fun u => cond (Nat.ble u 60000000) (z_mk mr ce sl u w (.inr (x1 + 4, u, [])) fun a w' ce' sl' => go lx mr r (q + 3) lo (z_rf a :: t) ce' sl' env w' k) false) (fun _ => false)
noncomputable def z_h_arraylength : zH := fun cls zty zdv ms go re lx mr q x1 x2 x3 r lo st ce sl env w k =>
  z_p1 st fun v t => z_rsc v (fun a => z_ar w a fun _ n _ => go lx mr r (q + 1) lo (.inl n :: t) ce sl env w k) (z_lx lx fun L => go lx mr r (q + 1) lo (.inl L :: t) ce sl env w k)
noncomputable def z_h_iaload : zH := fun cls zty zdv ms go re lx mr q x1 x2 x3 r lo st ce sl env w k =>
  z_p1 st fun j st1 => z_p1 st1 fun v t => z_rsc v (fun a => z_ar w a fun kd n pr => cond (Nat.beq kd 0) (z_ix env j n re fun u => z_gk (.inl 0) pr u fun v => go lx mr r (q + 1) lo (v :: t) ce sl env w k) false) (z_lx lx fun L => z_ix env j L re fun u => go lx mr r (q + 1) lo (z_sy u :: t) ce sl env w k)
noncomputable def z_h_baload : zH := fun cls zty zdv ms go re lx mr q x1 x2 x3 r lo st ce sl env w k =>
  z_p1 st fun j st1 => z_pr st1 fun a t => z_ar w a fun kd n pr => cond (or (Nat.beq kd 1) (Nat.beq kd 2)) (z_ix env j n re fun u => z_gk (.inl 0) pr u fun v => go lx mr r (q + 1) lo (v :: t) ce sl env w k) false
noncomputable def z_h_aaload : zH := fun cls zty zdv ms go re lx mr q x1 x2 x3 r lo st ce sl env w k =>
  z_p1 st fun j st1 => z_pr st1 fun a t => z_ar w a fun kd n pr => cond (Nat.ble 4 kd) (z_ix env j n re fun u => z_gk z_null pr u fun v => go lx mr r (q + 1) lo (v :: t) ce sl env w k) false
noncomputable def z_h_iastore : zH := fun cls zty zdv ms go re lx mr q x1 x2 x3 r lo st ce sl env w k =>
  z_p1 st fun v st1 => z_p1 st1 fun j st2 => z_pr st2 fun a t => z_ar w a fun kd n pr => cond (and (Nat.beq kd 0) (z_isI v)) (z_ix env j n re fun u => z_pst (.inl 0) v pr u fun pr' => z_set w a (.inr (kd, n, pr')) fun w' => go lx mr r (q + 1) lo t ce sl env w' k) false
noncomputable def z_h_bastore : zH := fun cls zty zdv ms go re lx mr q x1 x2 x3 r lo st ce sl env w k =>
  z_p1 st fun v st1 => z_p1 st1 fun j st2 => z_pr st2 fun a t => z_ar w a fun kd n pr => cond (and (Nat.beq kd 1) (z_isI v)) (z_ix env j n re fun u => z_pst (.inl 0) z_any pr u fun pr' => z_set w a (.inr (kd, n, pr')) fun w' => go lx mr r (q + 1) lo t ce sl env w' k)
        (cond (and (Nat.beq kd 2) (z_isB v)) (z_ix env j n re fun u => z_pst (.inl 0) v pr u fun pr' => z_set w a (.inr (kd, n, pr')) fun w' => go lx mr r (q + 1) lo t ce sl env w' k) false)
noncomputable def z_h_aastore : zH := fun cls zty zdv ms go re lx mr q x1 x2 x3 r lo st ce sl env w k =>
  z_pr st fun b st1 => z_p1 st1 fun j st2 => z_pr st2 fun a t => z_ar w a fun kd n pr => z_ob w b fun ci _ => cond (Nat.beq kd (ci + 4)) (z_ix env j n re fun u => z_pst z_null (z_rf b) pr u fun pr' => z_set w a (.inr (kd, n, pr')) fun w' => go lx mr r (q + 1) lo t ce sl env w' k) false
noncomputable def z_h_invokevirtual (_ : Nat) : zH := fun cls zty zdv ms go re lx mr q x1 x2 x3 r lo st ce sl env w k =>
  z_pop (x2 % 100) [] st fun as st1 => z_pr st1 fun a t => z_opl ms x1 fun cm => z_ob w a fun ci _ => cond (Nat.beq ci (z_ci cm)) (z_call go mr cm (z_rf a :: as) t ce sl env w fun env' t' ce' sl' w' => go lx mr r (q + 3) lo t' ce' sl' env' w' k) false
noncomputable def z_h_invokestatic (_ : Nat) : zH := fun cls zty zdv ms go re lx mr q x1 x2 x3 r lo st ce sl env w k =>
  z_pop (x2 % 100) [] st fun as t => z_opl ms x1 fun cm => z_call go mr cm as t ce sl env w fun env' t' ce' sl' w' => go lx mr r (q + 3) lo t' ce' sl' env' w' k
noncomputable def z_h_invokespecial (_ : Nat) : zH := fun cls zty zdv ms go re lx mr q x1 x2 x3 r lo st ce sl env w k =>
  cond (Nat.beq x2 50) (z_pr st fun _ t => cond (and (and (z_all z_c1 t) (Nat.ble (z_len t) 8)) (and (Nat.ble 1 (z_rm mr).frames) (Nat.ble 20 (z_rm mr).locals))) (go lx mr r (q + 3) lo t ce sl env w k) false)
      (z_pop (x2 % 100) [] st fun as st1 => z_pr st1 fun a t => z_opl ms x1 fun cm => z_call go mr cm (z_rf a :: as) t ce sl env w fun env' t' ce' sl' w' => go lx mr r (q + 3) lo t' ce' sl' env' w' k)
noncomputable def z_h_ireturn : zH := fun cls zty zdv ms go re lx mr q x1 x2 x3 r lo st ce sl env w k =>
  z_one st fun a => cond (z_rti (z_rt mr) a) (k env (some a) w) false
noncomputable def z_h_areturn : zH := fun cls zty zdv ms go re lx mr q x1 x2 x3 r lo st ce sl env w k =>
  z_one st fun a => cond (z_rto (z_rt mr) a) (k env (some a) w) false
noncomputable def z_h_return_ : zH := fun cls zty zdv ms go re lx mr q x1 x2 x3 r lo st ce sl env w k =>
  cond (z_nil st (z_rt mr)) (k env none w) false
noncomputable def z_ins (i : Jvm.ClassFile.Instr) : zH :=
  Jvm.ClassFile.Instr.rec (motive := fun _ => zH) z_h_aaload z_h_aastore z_h_aconst_null z_h_aload z_h_aload_n z_h_anewarray z_h_areturn z_h_arraylength z_h_astore z_h_astore_n z_no z_h_baload z_h_bastore z_h_bipush z_no z_no (fun _ => z_no) z_no z_no z_no z_no z_no z_no (fun _ => z_no) (fun _ => z_no) z_no (fun _ => z_no) (fun _ => z_no) z_no z_no z_no z_no (fun _ => z_no) (fun _ => z_no) z_no z_h_dup z_no z_no z_no z_no z_no z_no z_no z_no z_no z_no z_no (fun _ => z_no) (fun _ => z_no) z_no (fun _ => z_no) (fun _ => z_no) z_no z_no z_no z_no (fun _ => z_no) (fun _ => z_no) z_no z_h_getfield (fun _ => z_no) z_h_goto (fun _ => z_no) z_h_i2b z_no z_no z_no z_no z_no z_h_iadd z_h_iaload z_h_iand z_h_iastore z_h_iconst z_no (fun _ _ => z_no) z_h_if_icmp z_h_ifCond z_h_ifnonnull z_h_ifnull z_h_iinc z_h_iload z_h_iload_n z_h_imul z_no (fun _ => z_no) (fun _ => z_no) (fun _ _ => z_no) z_h_invokespecial z_h_invokestatic z_h_invokevirtual z_h_ior z_h_irem z_h_ireturn z_h_ishl z_h_ishr z_h_istore z_h_istore_n z_h_isub z_h_iushr z_no (fun _ => z_no) (fun _ => z_no) z_no z_no z_no z_no z_no z_no z_no z_no z_h_lconst z_h_ldc (fun _ => z_no) (fun _ => z_no) z_no (fun _ => z_no) (fun _ => z_no) z_no z_no z_h_lookupswitch z_no z_no z_no z_no z_no (fun _ => z_no) (fun _ => z_no) z_no z_no z_no z_no z_no (fun _ _ => z_no) z_h_new z_h_newarray z_no z_no z_no z_h_putfield (fun _ => z_no) (fun _ => z_no) z_h_return_ z_no z_no z_h_sipush z_no z_h_tableswitch i
noncomputable def z_step (cls : List vw_C) (zty : List (Nat → FieldType)) (zdv : List (List zAV)) (ms : List zMR) (go : zGo) : zGo := fun lx mr cd pc lo st ce sl env w k => match cd with
  | [] => lx.2 pc lo st ce sl env w
  | (q, i, x1, x2, x3) :: r => cond (Nat.beq q pc) (z_ins i cls zty zdv ms go (fun env' => go lx mr ((q, i, x1, x2, x3) :: r) pc lo st ce sl env' w k) lx mr q x1 x2 x3 r lo st ce sl env w k) false
noncomputable def z_ev (cls : List vw_C) (zty : List (Nat → FieldType)) (zdv : List (List zAV)) (ms : List zMR) (n : Nat) : zGo :=
  Nat.rec (motive := fun _ => zGo) (fun _ _ _ _ _ _ _ _ _ _ _ => false) (fun _ go => z_step cls zty zdv ms go) n
end
section
theorem z_nb (a b : Nat) : Nat.beq a b = true ↔ a = b := ⟨Nat.eq_of_beq_eq_true, fun h => by subst h; exact Nat.beq_refl a⟩
theorem z_nbe (a b : Nat) : (a == b) = Nat.beq a b := by
  rw [Bool.eq_iff_iff, z_nb]
  simp
theorem z_nI_un (x : Int32) : nI (z_un x) = x := by
  apply Int32.toBitVec_inj.mp
  show BitVec.ofNat 32 x.toBitVec.toNat = x.toBitVec
  simp
def z_b (x : Int32) : Nat := (x.toBitVec.toNat + 2147483648) % 4294967296
theorem z_b_int (x : Int32) : (z_b x : Int) = x.toInt + 2147483648 := by
  have h1 : x.toInt = x.toBitVec.toInt := rfl
  have h2 := x.toBitVec.isLt
  rw [h1, BitVec.toInt_eq_toNat_cond]
  unfold z_b
  split <;> omega
theorem z_b_nI (u : Nat) : z_b (nI u) = z_bu u := by
  have h : (nI u).toBitVec.toNat = u % 2 ^ 32 := by
    show (BitVec.ofNat 32 u).toNat = _
    exact BitVec.toNat_ofNat u 32
  unfold z_b z_bu
  rw [h]
  omega
theorem z_bu_b (x : Int32) : nI (z_bu (z_b x)) = x := by
  have h : z_bu (z_b x) = z_un x := by
    have h2 := x.toBitVec.isLt
    unfold z_bu z_b z_un
    omega
  rw [h, z_nI_un]
theorem z_blt (x y : Int32) : x < y ↔ z_b x < z_b y := by
  have h1 := z_b_int x
  have h2 := z_b_int y
  rw [Int32.lt_iff_toInt_lt]
  omega
theorem z_ble (x y : Int32) : x ≤ y ↔ z_b x ≤ z_b y := by
  have h1 := z_b_int x
  have h2 := z_b_int y
  rw [Int32.le_iff_toInt_le]
  omega
theorem z_beq (x y : Int32) : x = y ↔ z_b x = z_b y := by
  have h1 := z_b_int x
  have h2 := z_b_int y
  rw [← Int32.toInt_inj]
  omega
def z_hold (c : Jvm.ClassFile.Cond) (x y : Int32) : Prop := match c with
  | .eq => x = y
  | .ne => ¬ x = y
  | .lt => x < y
  | .ge => y ≤ x
  | .gt => y < x
  | .le => x ≤ y
theorem z_cmp_ok (c : Jvm.ClassFile.Cond) (x y : Int32) : z_cmp c (z_b x) (z_b y) = true ↔ z_hold c x y := by
  have h := z_beq x y
  have h1 := z_blt x y
  have h2 := z_blt y x
  have h3 := z_ble x y
  have h4 := z_ble y x
  cases c
  · show Nat.beq _ _ = true ↔ _
    rw [z_nb]; exact h.symm
  · have e : z_cmp .ne (z_b x) (z_b y) = !(Nat.beq (z_b x) (z_b y)) := rfl
    rw [e, Bool.not_eq_true', ← Bool.not_eq_true, z_nb]; exact not_congr h.symm
  · show Nat.ble (_ + 1) _ = true ↔ _
    rw [Nat.ble_eq]; exact h1.symm
  · show Nat.ble _ _ = true ↔ _
    rw [Nat.ble_eq]; exact h4.symm
  · show Nat.ble (_ + 1) _ = true ↔ _
    rw [Nat.ble_eq]; exact h2.symm
  · show Nat.ble _ _ = true ↔ _
    rw [Nat.ble_eq]; exact h3.symm
def z_erel (sg : Nat → Int32) (env : zEnv) : Prop := ∀ (i : Nat) (q : Nat × Nat), env[i]? = some q → q.1 ≤ z_b (sg i) ∧ z_b (sg i) ≤ q.2
theorem z_erel_set {sg : Nat → Int32} {env : zEnv} {i lo hi : Nat} (h : z_erel sg env) (h1 : lo ≤ z_b (sg i)) (h2 : z_b (sg i) ≤ hi) : z_erel sg (env.set i (lo, hi)) := by
  intro j q hq
  by_cases hj : i = j
  · subst hj
    by_cases hl : i < env.length
    · rw [List.getElem?_set_self hl] at hq
      cases hq
      exact ⟨h1, h2⟩
    · rw [List.getElem?_eq_none (by rw [List.length_set]; omega)] at hq
      cases hq
  · rw [List.getElem?_set_ne hj] at hq
    exact h j q hq
theorem z_spl_ok {sg : Nat → Int32} {env : zEnv} {i t : Nat} {L G : zEnv → Bool} (h : z_spl i env t L G = true) (he : z_erel sg env) : (z_b (sg i) < t → ∃ e, z_erel sg e ∧ L e = true) ∧ (¬ z_b (sg i) < t → ∃ e, z_erel sg e ∧ G e = true) := by
  unfold z_spl at h
  cases hq : env[i]? with
  | none => rw [hq] at h; cases h
  | some q =>
    obtain ⟨lo, hi⟩ := q
    rw [hq] at h
    dsimp only at h
    obtain ⟨a, b⟩ := he i (lo, hi) hq
    dsimp only at a b
    rw [Bool.and_eq_true] at h
    refine ⟨fun hx => ?_, fun hx => ?_⟩
    · have h1 := h.1
      rw [show Nat.blt lo t = true from by unfold Nat.blt; rw [Nat.ble_eq]; omega, cond_true, z_frc_eq, z_set_eq] at h1
      exact ⟨_, z_erel_set he a (by show _ ≤ min _ _; omega), h1⟩
    · have h1 := h.2
      rw [show Nat.ble t hi = true from by rw [Nat.ble_eq]; omega, cond_true, z_frc_eq, z_set_eq] at h1
      exact ⟨_, z_erel_set he (by show max _ _ ≤ _; omega) b, h1⟩
theorem z_brS_ok {sg : Nat → Int32} {env : zEnv} {i : Nat} {c : Jvm.ClassFile.Cond} {y : Int32} {T F : zEnv → Bool} (h : z_brS c i (z_b y) env T F = true) (he : z_erel sg env) : (z_hold c (sg i) y → ∃ e, z_erel sg e ∧ T e = true) ∧ (¬ z_hold c (sg i) y → ∃ e, z_erel sg e ∧ F e = true) := by
  have g0 := z_beq (sg i) y
  have g1 := z_blt (sg i) y
  have g2 := z_blt y (sg i)
  have g3 := z_ble (sg i) y
  have g4 := z_ble y (sg i)
  cases c
  · have h1 := z_spl_ok (sg := sg) h he
    refine ⟨fun q => ?_, fun q => ?_⟩
    · have q : sg i = y := q
      obtain ⟨e, e1, e2⟩ := h1.2 (by have := g0.mp q; omega)
      exact (z_spl_ok e2 e1).1 (by have := g0.mp q; omega)
    · have q : ¬ sg i = y := q
      by_cases hb : z_b (sg i) < z_b y
      · exact h1.1 hb
      · obtain ⟨e, e1, e2⟩ := h1.2 hb
        exact (z_spl_ok e2 e1).2 (by have := mt g0.mpr q; omega)
  · have h1 := z_spl_ok (sg := sg) h he
    refine ⟨fun q => ?_, fun q => ?_⟩
    · have q : ¬ sg i = y := q
      by_cases hb : z_b (sg i) < z_b y
      · exact h1.1 hb
      · obtain ⟨e, e1, e2⟩ := h1.2 hb
        exact (z_spl_ok e2 e1).2 (by have := mt g0.mpr q; omega)
    · have q : sg i = y := Classical.not_not.mp q
      obtain ⟨e, e1, e2⟩ := h1.2 (by have := g0.mp q; omega)
      exact (z_spl_ok e2 e1).1 (by have := g0.mp q; omega)
  · have h1 := z_spl_ok (sg := sg) h he
    exact ⟨fun q => h1.1 (g1.mp q), fun q => h1.2 (mt g1.mpr q)⟩
  · have h1 := z_spl_ok (sg := sg) h he
    exact ⟨fun q => h1.2 (by have := g4.mp q; omega), fun q => h1.1 (by have := mt g4.mpr q; omega)⟩
  · have h1 := z_spl_ok (sg := sg) h he
    exact ⟨fun q => h1.2 (by have := g2.mp q; omega), fun q => h1.1 (by have := mt g2.mpr q; omega)⟩
  · have h1 := z_spl_ok (sg := sg) h he
    exact ⟨fun q => h1.1 (by have := g3.mp q; omega), fun q => h1.2 (by have := mt g3.mpr q; omega)⟩
theorem z_alR_ok {lo n : Nat} {f : Nat → Bool} (h : z_alR lo n f = true) : ∀ j, j < n → f (lo + j) = true := by
  induction n with
  | zero => intro j hj; omega
  | succ n ih =>
    have h : and (f (lo + n)) (z_alR lo n f) = true := h
    rw [Bool.and_eq_true] at h
    intro j hj
    by_cases hjn : j = n
    · subst hjn; exact h.1
    · exact ih h.2 j (by omega)
theorem z_con_ok {sg : Nat → Int32} {env : zEnv} {i : Nat} {re : zEnv → Bool} (h : z_con env i re = true) (he : z_erel sg env) : ∃ e, z_erel sg e ∧ re e = true := by
  unfold z_con at h
  cases hq : env[i]? with
  | none => rw [hq] at h; cases h
  | some q =>
    rw [hq] at h
    dsimp only at h
    obtain ⟨a, b⟩ := he i q hq
    cases hc : Nat.ble (q.2 - q.1) 64 with
    | false => rw [hc] at h; cases h
    | true =>
      rw [hc, cond_true] at h
      have h1 := z_alR_ok h (z_b (sg i) - q.1) (by omega)
      rw [z_frc_eq, z_set_eq] at h1
      exact ⟨_, z_erel_set he (by omega) (by omega), h1⟩
/-- what a value stands for -/
def z_g (sg : Nat → Int32) (ad : List Nat) (b : Nat) : zAV → Value → Prop
  | .inl u, v => v = .int (nI u)
  | .inr (.inl i), v => v = .int (sg i)
  | .inr (.inr (.inl none)), v => v = .null
  | .inr (.inr (.inl (some k))), v => ∃ a, ad[k]? = some a ∧ v = .ref a
  | .inr (.inr (.inr 0)), v => ∃ x, v = .int x
  | .inr (.inr (.inr 1)), v => ∃ x, v = .long x
  | .inr (.inr (.inr _)), v => v = .ref b
def z_le (ad ad' : List Nat) : Prop := ∀ (k a : Nat), ad[k]? = some a → ad'[k]? = some a
theorem z_g_mono {sg : Nat → Int32} {ad ad' : List Nat} {b : Nat} (h : z_le ad ad') {a : zAV} {v : Value} (hg : z_g sg ad b a v) : z_g sg ad' b a v := by
  match a, hg with
  | .inl _, hg => exact hg
  | .inr (.inl _), hg => exact hg
  | .inr (.inr (.inl none)), hg => exact hg
  | .inr (.inr (.inl (some k))), hg =>
    obtain ⟨q, h1, h2⟩ := hg
    exact ⟨q, h k q h1, h2⟩
  | .inr (.inr (.inr 0)), hg => exact hg
  | .inr (.inr (.inr 1)), hg => exact hg
  | .inr (.inr (.inr (_ + 2))), hg => exact hg
theorem z_isI_ok {sg : Nat → Int32} {ad : List Nat} {b : Nat} {a : zAV} {v : Value} (h : z_isI a = true) (hg : z_g sg ad b a v) : ∃ x, v = .int x := by
  match a, h, hg with
  | .inl _, _, hg => exact ⟨_, hg⟩
  | .inr (.inl _), _, hg => exact ⟨_, hg⟩
  | .inr (.inr (.inl _)), h, _ => cases h
  | .inr (.inr (.inr 0)), _, hg => exact hg
  | .inr (.inr (.inr (_ + 1))), h, _ => cases h
theorem z_isR_ok {sg : Nat → Int32} {ad : List Nat} {b : Nat} {a : zAV} {v : Value} (h : z_isR a = true) (hg : z_g sg ad b a v) : v = .null ∨ ∃ q, v = .ref q := by
  match a, h, hg with
  | .inl _, h, _ => cases h
  | .inr (.inl _), h, _ => cases h
  | .inr (.inr (.inl none)), _, hg => exact Or.inl hg
  | .inr (.inr (.inl (some _))), _, hg =>
    obtain ⟨q, _, h2⟩ := hg
    exact Or.inr ⟨q, h2⟩
  | .inr (.inr (.inr 0)), h, _ => cases h
  | .inr (.inr (.inr 1)), h, _ => cases h
  | .inr (.inr (.inr (_ + 2))), _, hg => exact Or.inr ⟨b, hg⟩
theorem z_isO_ok {sg : Nat → Int32} {ad : List Nat} {b : Nat} {a : zAV} {v : Value} (h : z_isO a = true) (hg : z_g sg ad b a v) : v = .null ∨ ∃ q, v = .ref q := by
  match a, h, hg with
  | .inl _, h, _ => cases h
  | .inr (.inl _), h, _ => cases h
  | .inr (.inr (.inl none)), _, hg => exact Or.inl hg
  | .inr (.inr (.inl (some _))), _, hg =>
    obtain ⟨q, _, h2⟩ := hg
    exact Or.inr ⟨q, h2⟩
  | .inr (.inr (.inr _)), h, _ => cases h
theorem z_isB_ok {sg : Nat → Int32} {ad : List Nat} {b : Nat} {a : zAV} {v : Value} (h : z_isB a = true) (hg : z_g sg ad b a v) : v = .int 0 ∨ v = .int 1 := by
  match a, h, hg with
  | .inl 0, _, hg => exact Or.inl hg
  | .inl 1, _, hg => exact Or.inr hg
  | .inl (_ + 2), h, _ => cases h
  | .inr _, h, _ => cases h
theorem z_c1_ok {sg : Nat → Int32} {ad : List Nat} {b : Nat} {a : zAV} {v : Value} (h : z_c1 a = true) (hg : z_g sg ad b a v) : v.category = 1 := by
  match a, h, hg with
  | .inl _, _, hg => rw [hg]; rfl
  | .inr (.inl _), _, hg => rw [hg]; rfl
  | .inr (.inr (.inl none)), _, hg => rw [hg]; rfl
  | .inr (.inr (.inl (some _))), _, hg =>
    obtain ⟨q, _, h2⟩ := hg
    rw [h2]; rfl
  | .inr (.inr (.inr 0)), _, hg =>
    obtain ⟨q, h2⟩ := hg
    rw [h2]; rfl
  | .inr (.inr (.inr 1)), h, _ => cases h
  | .inr (.inr (.inr (_ + 2))), _, hg => rw [hg]; rfl
theorem z_fit_ok {sg : Nat → Int32} {ad : List Nat} {b : Nat} {a : zAV} {v : Value} {ty : FieldType} (h : z_fit ty a = true) (hg : z_g sg ad b a v) : narrow ty v = v ∧ fits ty v = true := by
  cases ty with
  | int => obtain ⟨x, rfl⟩ := z_isI_ok h hg; exact ⟨rfl, rfl⟩
  | boolean => rcases z_isB_ok h hg with rfl | rfl <;> exact ⟨by decide, by decide⟩
  | long =>
    match a, h, hg with
    | .inl _, h, _ => cases h
    | .inr (.inl _), h, _ => cases h
    | .inr (.inr (.inl _)), h, _ => cases h
    | .inr (.inr (.inr 0)), h, _ => cases h
    | .inr (.inr (.inr 1)), _, hg =>
      obtain ⟨x, rfl⟩ := hg
      exact ⟨rfl, rfl⟩
    | .inr (.inr (.inr (_ + 2))), h, _ => cases h
  | object n => rcases z_isO_ok h hg with rfl | ⟨q, rfl⟩ <;> exact ⟨rfl, rfl⟩
  | array n => rcases z_isO_ok h hg with rfl | ⟨q, rfl⟩ <;> exact ⟨rfl, rfl⟩
  | _ => cases h
theorem z_rs_ok {sg : Nat → Int32} {ad : List Nat} {b : Nat} {env : zEnv} (he : z_erel sg env) {a : zAV} {v : Value} (hg : z_g sg ad b a v) : z_g sg ad b (z_rs env a) v := by
  match a, hg with
  | .inl _, hg => exact hg
  | .inr (.inr _), hg => exact hg
  | .inr (.inl i), hg =>
    unfold z_rs
    dsimp only
    cases hq : env[i]? with
    | none => exact hg
    | some q =>
      dsimp only
      cases hb : Nat.beq q.1 q.2 with
      | false => exact hg
      | true =>
        have h1 := Nat.eq_of_beq_eq_true hb
        obtain ⟨h2, h3⟩ := he i q hq
        have h4 : q.1 = z_b (sg i) := by omega
        have hg : v = .int (sg i) := hg
        show v = .int (nI (z_bu q.1))
        rw [h4, z_bu_b]
        exact hg
theorem z_br_ok {sg : Nat → Int32} {ad : List Nat} {bb : Nat} {env : zEnv} {c : Jvm.ClassFile.Cond} {a b : zAV} {x y : Int32} {re T F : zEnv → Bool} (h : z_br c a b env re T F = true) (he : z_erel sg env) (ha : z_g sg ad bb a (.int x)) (hb : z_g sg ad bb b (.int y)) :
    ((z_hold c x y → ∃ e, z_erel sg e ∧ T e = true) ∧ (¬ z_hold c x y → ∃ e, z_erel sg e ∧ F e = true)) ∨ ∃ e, z_erel sg e ∧ re e = true := by
  match a, b, h, ha, hb with
  | .inl u, .inl v, h, ha, hb =>
    have ha : Value.int x = .int (nI u) := ha
    have hb : Value.int y = .int (nI v) := hb
    cases ha; cases hb
    have h : cond (z_cmp c (z_bu u) (z_bu v)) (T env) (F env) = true := h
    rw [← z_b_nI u, ← z_b_nI v] at h
    have hk := z_cmp_ok c (nI u) (nI v)
    cases hc : z_cmp c (z_b (nI u)) (z_b (nI v)) with
    | true =>
      rw [hc] at h hk
      exact Or.inl ⟨fun _ => ⟨env, he, h⟩, fun n => absurd (hk.mp rfl) n⟩
    | false =>
      rw [hc] at h hk
      exact Or.inl ⟨fun n => absurd (hk.mpr n) (by decide), fun _ => ⟨env, he, h⟩⟩
  | .inr (.inl i), .inl v, h, ha, hb =>
    have ha : Value.int x = .int (sg i) := ha
    have hb : Value.int y = .int (nI v) := hb
    cases ha; cases hb
    have h : z_brS c i (z_bu v) env T F = true := h
    rw [← z_b_nI v] at h
    exact Or.inl (z_brS_ok h he)
  | .inl u, .inr (.inl i), h, ha, hb =>
    have ha : Value.int x = .int (nI u) := ha
    have hb : Value.int y = .int (sg i) := hb
    cases ha; cases hb
    have h : z_brS (z_flip c) i (z_bu u) env T F = true := h
    rw [← z_b_nI u] at h
    have h2 := z_brS_ok (sg := sg) h he
    refine Or.inl ?_
    cases c
    · exact ⟨fun q => h2.1 (Eq.symm q), fun q => h2.2 (fun z => q (Eq.symm z))⟩
    · exact ⟨fun q => h2.1 (fun z => q (Eq.symm z)), fun q => h2.2 (fun z => q (fun w => z (Eq.symm w)))⟩
    · exact h2
    · exact h2
    · exact h2
    · exact h2
  | .inr (.inl i), .inr (.inl _), h, _, _ => exact Or.inr (z_con_ok h he)
  | .inr (.inr _), _, h, _, _ => cases h
  | .inl _, .inr (.inr _), h, _, _ => cases h
  | .inr (.inl _), .inr (.inr _), h, _, _ => cases h
theorem z_ix_ok {sg : Nat → Int32} {ad : List Nat} {bb : Nat} {env : zEnv} {a : zAV} {n : Nat} {v : Value} {re : zEnv → Bool} {k : Nat → Bool} (h : z_ix env a n re k = true) (he : z_erel sg env) (hg : z_g sg ad bb a v) :
    (∃ u, v = .int (nI u) ∧ vp_in (nI u) n ∧ (nI u).toNatClampNeg = u ∧ k u = true) ∨ ∃ e, z_erel sg e ∧ re e = true := by
  have h2 := z_rs_ok he hg
  unfold z_ix at h
  match z_rs env a, h, h2 with
  | .inl u, h, h2 =>
    have h : cond (and (Nat.blt u n) (Nat.ble n 2147483647)) (k u) false = true := h
    cases hc : and (Nat.blt u n) (Nat.ble n 2147483647) with
    | false => rw [hc] at h; cases h
    | true =>
      rw [hc] at h
      rw [Bool.and_eq_true] at hc
      have c1 : u + 1 ≤ n := Nat.le_of_ble_eq_true hc.1
      have c2 : n ≤ 2147483647 := Nat.le_of_ble_eq_true hc.2
      exact Or.inl ⟨u, h2, vp_in_nI (by omega) (by omega), nI_clamp (by omega), h⟩
  | .inr (.inl i), h, _ => exact Or.inr (z_con_ok h he)
  | .inr (.inr _), h, _ => cases h
theorem z_bin_ok {sg : Nat → Int32} {ad : List Nat} {bb : Nat} {env : zEnv} {f : Int32 → Int32 → Int32} {a b : zAV} {v1 v2 : Value} {k : zAV → Bool} (h : z_bin f env a b k = true) (he : z_erel sg env) (ha : z_g sg ad bb a v1) (hb : z_g sg ad bb b v2) :
    ∃ x y c, v1 = .int x ∧ v2 = .int y ∧ z_g sg ad bb c (.int (f x y)) ∧ k c = true := by
  have h1 := z_rs_ok he ha
  have h2 := z_rs_ok he hb
  unfold z_bin at h
  have key : ∀ a' b' : zAV, z_g sg ad bb a' v1 → z_g sg ad bb b' v2 → and (and (z_isI a') (z_isI b')) (k z_any) = true → ∃ x y c, v1 = .int x ∧ v2 = .int y ∧ z_g sg ad bb c (.int (f x y)) ∧ k c = true := by
    intro a' b' g1 g2 hh
    rw [Bool.and_eq_true, Bool.and_eq_true] at hh
    obtain ⟨x, hx⟩ := z_isI_ok hh.1.1 g1
    obtain ⟨y, hy⟩ := z_isI_ok hh.1.2 g2
    exact ⟨x, y, z_any, hx, hy, ⟨_, rfl⟩, hh.2⟩
  match z_rs env a, z_rs env b, h, h1, h2 with
  | .inl x, .inl y, h, h1, h2 =>
    have h : z_frc (z_un (f (nI x) (nI y))) (fun u => k (.inl u)) = true := h
    rw [z_frc_eq] at h
    exact ⟨nI x, nI y, _, h1, h2, by show Value.int _ = .int _; rw [z_nI_un], h⟩
  | .inl x, .inr y, h, h1, h2 => exact key _ _ h1 h2 h
  | .inr x, .inl y, h, h1, h2 => exact key _ _ h1 h2 h
  | .inr x, .inr y, h, h1, h2 => exact key _ _ h1 h2 h
-- stacks, places, cells
def z_SR (g : zAV → Value → Prop) : List zAV → List Value → Prop
  | [], [] => True
  | a :: as, v :: vs => g a v ∧ z_SR g as vs
  | _, _ => False
def z_LR (g : zAV → Value → Prop) : List (Nat × zAV) → List (Nat × Value) → Prop
  | [], [] => True
  | q :: qs, r :: rs => (q.1 = r.1 ∧ g q.2 r.2 ∧ r.2.category = 1) ∧ z_LR g qs rs
  | _, _ => False
theorem z_SR_mono {g g' : zAV → Value → Prop} (h : ∀ a v, g a v → g' a v) : ∀ {as : List zAV} {vs : List Value}, z_SR g as vs → z_SR g' as vs
  | [], [], _ => trivial
  | _ :: _, _ :: _, hs => ⟨h _ _ hs.1, z_SR_mono h hs.2⟩
  | [], _ :: _, hs => hs.elim
  | _ :: _, [], hs => hs.elim
theorem z_LR_mono {g g' : zAV → Value → Prop} (h : ∀ a v, g a v → g' a v) : ∀ {as : List (Nat × zAV)} {vs : List (Nat × Value)}, z_LR g as vs → z_LR g' as vs
  | [], [], _ => trivial
  | _ :: _, _ :: _, hs => ⟨⟨hs.1.1, h _ _ hs.1.2.1, hs.1.2.2⟩, z_LR_mono h hs.2⟩
  | [], _ :: _, hs => hs.elim
  | _ :: _, [], hs => hs.elim
theorem z_SR_len {g : zAV → Value → Prop} : ∀ {as : List zAV} {vs : List Value}, z_SR g as vs → as.length = vs.length
  | [], [], _ => rfl
  | _ :: _, _ :: _, hs => by simp [z_SR_len hs.2]
  | [], _ :: _, hs => hs.elim
  | _ :: _, [], hs => hs.elim
theorem z_SR_get {g : zAV → Value → Prop} : ∀ {as : List zAV} {vs : List Value} {k : Nat} {a : zAV}, z_SR g as vs → as[k]? = some a → ∃ v, vs[k]? = some v ∧ g a v
  | [], [], k, _, _, h => by simp at h
  | _ :: _, _ :: _, 0, _, hs, h => by simp at h; subst h; exact ⟨_, rfl, hs.1⟩
  | _ :: as, _ :: vs, k + 1, _, hs, h => by simpa using z_SR_get (as := as) (vs := vs) (k := k) hs.2 (by simpa using h)
  | [], _ :: _, _, _, hs, _ => hs.elim
  | _ :: _, [], _, _, hs, _ => hs.elim
theorem z_SR_set {g : zAV → Value → Prop} {a : zAV} {v : Value} (hg : g a v) : ∀ {as : List zAV} {vs : List Value} (k : Nat), z_SR g as vs → z_SR g (as.set k a) (vs.set k v)
  | [], [], _, hs => hs
  | _ :: _, _ :: _, 0, hs => ⟨hg, hs.2⟩
  | _ :: _, _ :: _, k + 1, hs => ⟨hs.1, z_SR_set hg k hs.2⟩
  | [], _ :: _, _, hs => hs.elim
  | _ :: _, [], _, hs => hs.elim
theorem z_SR_split {g : zAV → Value → Prop} : ∀ {xs t : List zAV} {vs : List Value}, z_SR g (xs ++ t) vs → ∃ cx ct, vs = cx ++ ct ∧ z_SR g xs cx ∧ z_SR g t ct
  | [], t, vs, h => ⟨[], vs, rfl, trivial, h⟩
  | _ :: xs, t, v :: vs, h => by
    obtain ⟨cx, ct, h1, h2, h3⟩ := z_SR_split (xs := xs) (t := t) h.2
    exact ⟨v :: cx, ct, by rw [h1]; rfl, ⟨h.1, h2⟩, h3⟩
  | _ :: _, _, [], h => h.elim
theorem z_SR_app {g : zAV → Value → Prop} : ∀ {xs t : List zAV} {cx ct : List Value}, z_SR g xs cx → z_SR g t ct → z_SR g (xs ++ t) (cx ++ ct)
  | [], _, [], _, _, h => h
  | _ :: _, _, _ :: _, _, h, h2 => ⟨h.1, z_SR_app h.2 h2⟩
  | [], _, _ :: _, _, h, _ => h.elim
  | _ :: _, _, [], _, h, _ => h.elim
theorem z_SR_rev {g : zAV → Value → Prop} : ∀ {xs : List zAV} {cx : List Value}, z_SR g xs cx → z_SR g xs.reverse cx.reverse
  | [], [], h => h
  | _ :: _, _ :: _, h => by
    rw [List.reverse_cons, List.reverse_cons]
    exact z_SR_app (z_SR_rev h.2) ⟨h.1, trivial⟩
  | [], _ :: _, h => h.elim
  | _ :: _, [], h => h.elim
theorem z_all_cons {f : zAV → Bool} {a : zAV} {l : List zAV} (h : z_all f (a :: l) = true) : f a = true ∧ z_all f l = true := by
  have h : and (f a) (z_all f l) = true := h
  rwa [Bool.and_eq_true] at h
theorem z_SR_cat {g : zAV → Value → Prop} (hg : ∀ a v, z_c1 a = true → g a v → v.category = 1) : ∀ {as : List zAV} {vs : List Value}, z_all z_c1 as = true → z_SR g as vs → (vs.map fun v => v.category).sum = vs.length
  | [], [], _, _ => rfl
  | _ :: _, _ :: vs, h, hs => by
    obtain ⟨h1, h2⟩ := z_all_cons h
    have := z_SR_cat hg h2 hs.2
    simp [hg _ _ h1 hs.1, this]
    omega
  | [], _ :: _, _, hs => hs.elim
  | _ :: _, [], _, hs => hs.elim
theorem z_pop_ok {n : Nat} : ∀ {acc st : List zAV} {k : List zAV → List zAV → Bool}, z_pop n acc st k = true → ∃ xs t, xs.length = n ∧ st = xs ++ t ∧ k (xs.reverse ++ acc) t = true := by
  induction n with
  | zero => intro acc st k h; exact ⟨[], st, rfl, rfl, h⟩
  | succ n ih =>
    intro acc st k h
    cases st with
    | nil => cases h
    | cons a t =>
      have h : z_pop n (a :: acc) t k = true := h
      obtain ⟨xs, t', h1, h2, h3⟩ := ih h
      exact ⟨a :: xs, t', by simp [h1], by rw [h2]; rfl, by simpa using h3⟩
theorem z_LR_lk {g : zAV → Value → Prop} {i : Nat} {a : zAV} : ∀ {lo : List (Nat × zAV)} {lv : List (Nat × Value)}, z_LR g lo lv → z_lk lo i = some a → ∃ (k : Nat) (v : Value), lv[k]? = some (i, v) ∧ g a v ∧ v.category = 1
  | [], [], _, h => by cases h
  | q :: qs, r :: rs, hs, h => by
    have h : cond (Nat.beq q.1 i) (some q.2) (z_lk qs i) = some a := h
    cases hb : Nat.beq q.1 i with
    | true =>
      rw [hb] at h
      cases h
      have := Nat.eq_of_beq_eq_true hb
      refine ⟨0, r.2, ?_, hs.1.2⟩
      show some r = _
      rw [← this, hs.1.1]
    | false =>
      rw [hb] at h
      obtain ⟨k, v, h1, h2⟩ := z_LR_lk hs.2 h
      exact ⟨k + 1, v, by simpa using h1, h2⟩
  | [], _ :: _, hs, _ => hs.elim
  | _ :: _, [], hs, _ => hs.elim
theorem z_LR_del {g : zAV → Value → Prop} (i : Nat) : ∀ {lo : List (Nat × zAV)} {lv : List (Nat × Value)}, z_LR g lo lv → z_LR g (lo.filter (fun q => !(Nat.beq q.1 i))) (lv.filter (fun q => !(q.1 == i) && !(q.1 + 1 == i && q.2.category == 2)))
  | [], [], _ => trivial
  | q :: qs, r :: rs, hs => by
    have h1 := z_LR_del i hs.2
    have hc : (!(r.1 == i) && !(r.1 + 1 == i && r.2.category == 2)) = !(Nat.beq q.1 i) := by
      rw [hs.1.2.2, hs.1.1]
      simp [z_nbe]
      exact fun _ => Or.inr rfl
    rw [List.filter_cons, List.filter_cons, hc]
    cases hb : Nat.beq q.1 i
    · exact ⟨hs.1, h1⟩
    · exact h1
  | [], _ :: _, hs => hs.elim
  | _ :: _, [], hs => hs.elim
theorem z_en_ok {g : zAV → Value → Prop} (hg : ∀ a v, z_arg a = true → g a v → v.category = 1) : ∀ {as : List zAV} {vs : List Value} (i : Nat), z_all z_arg as = true → z_SR g as vs → z_LR g (z_en as i) (lv_args i vs) ∧ (lg_sl vs).length = vs.length
  | [], [], _, _, _ => ⟨trivial, rfl⟩
  | a :: as, v :: vs, i, h, hs => by
    obtain ⟨h1, h2⟩ := z_all_cons h
    have hc := hg _ _ h1 hs.1
    have ih := z_en_ok hg (i + 1) h2 hs.2
    have e : lv_args i (v :: vs) = (i, v) :: lv_args (i + 1) vs := by
      show (i, v) :: lv_args (if v.category = 2 then i + 2 else i + 1) vs = _
      rw [if_neg (by omega)]
    rw [e]
    refine ⟨⟨⟨rfl, hs.1, hc⟩, ih.1⟩, ?_⟩
    have e2 : lg_sl (v :: vs) = .val v :: lg_sl vs := by
      unfold lg_sl
      rw [List.flatMap_cons, if_neg (by omega)]
      rfl
    rw [e2]
    simp [ih.2]
  | [], _ :: _, _, _, hs => hs.elim
  | _ :: _, [], _, _, hs => hs.elim
end
section
-- worlds
def z_cn (cls : List vw_C) (n : Nat) : String := match cls[n]? with
  | some q => q.1
  | none => ""
def z_kty (cls : List vw_C) : Nat → FieldType
  | 0 => .int
  | 1 => .byte
  | 2 => .boolean
  | 3 => .long
  | n + 4 => .object (z_cn cls n)
def z_DR (g : zAV → Value → Prop) : Nat → List zAV → ((Nat → Int32) ⊕ (Nat → Int64) ⊕ (Nat → UInt32) ⊕ (Nat → UInt64) ⊕ (Nat → Option Nat)) → Prop
  | 0, pr, d => ∃ f, d = .inl f ∧ ∀ j, g (pr.getD j (.inl 0)) (.int (f j))
  | 1, pr, d => ∃ f, d = .inl f ∧ ∀ j, g (pr.getD j (.inl 0)) (.int (f j))
  | 2, pr, d => ∃ f, d = .inl f ∧ ∀ j, g (pr.getD j (.inl 0)) (.int (f j))
  | 3, _, d => ∃ f, d = .inr (.inl f)
  | _ + 4, pr, d => ∃ f, d = .inr (.inr (.inr (.inr f))) ∧ ∀ j, g (pr.getD j z_null) (va_rf (f j))
def z_ER (cls : List vw_C) (g : zAV → Value → Prop) (tys : List (ClassId × FieldType)) : zAE → va_E → Prop
  | .inl f, .inr o => f.1 = o.1 ∧ z_SR g f.2 o.2
  | .inr f, .inl o => f.2.1 = o.2.1 ∧ (∃ t0 : Nat, tys[t0]? = some (o.1, z_kty cls f.1)) ∧ z_DR g f.1 f.2.2 o.2.2
  | _, _ => False
def z_WR (cls : List vw_C) (g : zAV → Value → Prop) (tys : List (ClassId × FieldType)) : List zAE → va_W → Prop
  | [], [] => True
  | e :: es, x :: xs => z_ER cls g tys e x.2 ∧ z_WR cls g tys es xs
  | _, _ => False
theorem z_DR_mono {g g' : zAV → Value → Prop} (h : ∀ a v, g a v → g' a v) {kd : Nat} {pr : List zAV} {d : (Nat → Int32) ⊕ (Nat → Int64) ⊕ (Nat → UInt32) ⊕ (Nat → UInt64) ⊕ (Nat → Option Nat)} (hd : z_DR g kd pr d) : z_DR g' kd pr d := by
  match kd, hd with
  | 0, ⟨f, h1, h2⟩ => exact ⟨f, h1, fun j => h _ _ (h2 j)⟩
  | 1, ⟨f, h1, h2⟩ => exact ⟨f, h1, fun j => h _ _ (h2 j)⟩
  | 2, ⟨f, h1, h2⟩ => exact ⟨f, h1, fun j => h _ _ (h2 j)⟩
  | 3, hd => exact hd
  | _ + 4, ⟨f, h1, h2⟩ => exact ⟨f, h1, fun j => h _ _ (h2 j)⟩
theorem z_ER_mono {cls : List vw_C} {g g' : zAV → Value → Prop} {tys tys' : List (ClassId × FieldType)} (h : ∀ a v, g a v → g' a v) (ht : ∀ (t0 : Nat) (q : ClassId × FieldType), tys[t0]? = some q → tys'[t0]? = some q) : ∀ {e : zAE} {x : va_E}, z_ER cls g tys e x → z_ER cls g' tys' e x
  | .inl _, .inr _, hs => ⟨hs.1, z_SR_mono h hs.2⟩
  | .inr _, .inl _, hs => ⟨hs.1, hs.2.1.elim fun t0 h0 => ⟨t0, ht t0 _ h0⟩, z_DR_mono h hs.2.2⟩
  | .inl _, .inl _, hs => hs.elim
  | .inr _, .inr _, hs => hs.elim
theorem z_WR_mono {cls : List vw_C} {g g' : zAV → Value → Prop} {tys tys' : List (ClassId × FieldType)} (h : ∀ a v, g a v → g' a v) (ht : ∀ (t0 : Nat) (q : ClassId × FieldType), tys[t0]? = some q → tys'[t0]? = some q) : ∀ {w : List zAE} {cw : va_W}, z_WR cls g tys w cw → z_WR cls g' tys' w cw
  | [], [], _ => trivial
  | _ :: _, _ :: _, hs => ⟨z_ER_mono h ht hs.1, z_WR_mono h ht hs.2⟩
  | [], _ :: _, hs => hs.elim
  | _ :: _, [], hs => hs.elim
theorem z_WR_len {cls : List vw_C} {g : zAV → Value → Prop} {tys : List (ClassId × FieldType)} : ∀ {w : List zAE} {cw : va_W}, z_WR cls g tys w cw → w.length = cw.length
  | [], [], _ => rfl
  | _ :: _, _ :: _, hs => by simp [z_WR_len hs.2]
  | [], _ :: _, hs => hs.elim
  | _ :: _, [], hs => hs.elim
theorem z_WR_get {cls : List vw_C} {g : zAV → Value → Prop} {tys : List (ClassId × FieldType)} : ∀ {w : List zAE} {cw : va_W} {k : Nat} {e : zAE}, z_WR cls g tys w cw → w[k]? = some e → ∃ x, cw[k]? = some x ∧ z_ER cls g tys e x.2
  | [], [], k, _, _, h => by simp at h
  | _ :: _, _ :: _, 0, _, hs, h => by simp at h; subst h; exact ⟨_, rfl, hs.1⟩
  | _ :: w, _ :: cw, k + 1, _, hs, h => by simpa using z_WR_get (w := w) (cw := cw) (k := k) hs.2 (by simpa using h)
  | [], _ :: _, _, _, hs, _ => hs.elim
  | _ :: _, [], _, _, hs, _ => hs.elim
theorem z_WR_set {cls : List vw_C} {g : zAV → Value → Prop} {tys : List (ClassId × FieldType)} {e : zAE} {a : Nat} {x : va_E} (he : z_ER cls g tys e x) : ∀ {w : List zAE} {cw : va_W} (k : Nat), z_WR cls g tys w cw → z_WR cls g tys (w.set k e) (cw.set k (a, x))
  | [], [], _, hs => hs
  | _ :: _, _ :: _, 0, hs => ⟨he, hs.2⟩
  | _ :: _, _ :: _, k + 1, hs => ⟨hs.1, z_WR_set he k hs.2⟩
  | [], _ :: _, _, hs => hs.elim
  | _ :: _, [], _, hs => hs.elim
theorem z_WR_push {cls : List vw_C} {g : zAV → Value → Prop} {tys : List (ClassId × FieldType)} {e : zAE} {x : Nat × va_E} (he : z_ER cls g tys e x.2) : ∀ {w : List zAE} {cw : va_W}, z_WR cls g tys w cw → z_WR cls g tys (w ++ [e]) (cw ++ [x])
  | [], [], _ => ⟨he, trivial⟩
  | _ :: _, _ :: _, hs => ⟨hs.1, z_WR_push he hs.2⟩
  | [], _ :: _, hs => hs.elim
  | _ :: _, [], hs => hs.elim
theorem z_fst_set {cw : va_W} {k a : Nat} {x x' : va_E} (h : cw[k]? = some (a, x)) : (cw.set k (a, x')).map Prod.fst = cw.map Prod.fst := by
  rw [List.map_set]
  apply List.ext_getElem?
  intro j
  by_cases hj : k = j
  · subst hj
    have hl : k < (cw.map Prod.fst).length := by rw [List.length_map]; exact (List.getElem?_eq_some_iff.mp h).1
    rw [List.getElem?_set_self hl, List.getElem?_map, h]
    rfl
  · rw [List.getElem?_set_ne hj]
theorem z_le_push (cw : va_W) (x : Nat × va_E) : z_le (cw.map Prod.fst) ((cw ++ [x]).map Prod.fst) := by
  intro k a h
  rw [List.map_append, List.getElem?_append_left (List.getElem?_eq_some_iff.mp h).1]
  exact h
theorem z_ref_at {cw : va_W} {k a : Nat} (h : (cw.map Prod.fst)[k]? = some a) {x : Nat × va_E} (hx : cw[k]? = some x) : x.1 = a := by
  rw [List.getElem?_map, hx] at h
  exact Option.some.inj h
-- words
abbrev zTB : Type := List (List Jvm.Cond)
def z_G (tb : zTB) : List Jvm.Cond := tb.flatten.filter goodWord
def z_ws (tb : zTB) (mr : zMR) : List Jvm.Cond := Jvm.Cond.code (z_y mr) (z_cc mr) (z_mL mr) (z_rt mr) :: z_G tb
def z_NW (nw : List Jvm.Cond) (s : State) : Prop := (∀ (a : String) (i : Nat) (y : MethodName) (h : String), Jvm.Cond.methodLinkNest a i y h ∈ nw → va_Nw (.methodLinkNest a i y h) s) ∧ ∀ C : String, Jvm.Cond.arrayOver (.object C) ∈ nw → va_AO C s
theorem z_NW_warm {nw : List Jvm.Cond} {s U : State} (hW : s.WarmedH U.vm) (h : z_NW nw s) : z_NW nw U := ⟨fun a i y hh q => (h.1 a i y hh q).warmM hW, fun C q => (h.2 C q).moved hW.alike⟩
theorem z_NW_same {nw : List Jvm.Cond} {s U : State} (hv : s.vm = U.vm) (h : z_NW nw s) : z_NW nw U := ⟨fun a i y hh q => (h.1 a i y hh q).same rfl hv, fun C q => (h.2 C q).moved (by rw [hv]; exact Vm.Alike.refl U.vm)⟩
/-- how long an instruction is, of those that are gone through -/
def z_il : Jvm.ClassFile.Instr → Nat
  | .bipush _ => 2
  | .sipush _ => 3
  | .ldc _ => 2
  | .iload _ => 2
  | .aload _ => 2
  | .istore _ => 2
  | .astore _ => 2
  | .iinc _ _ => 3
  | .ifCond _ _ => 3
  | .if_icmp _ _ => 3
  | .ifnull _ => 3
  | .ifnonnull _ => 3
  | .goto _ => 3
  | .getfield _ => 3
  | .putfield _ => 3
  | .new _ => 3
  | .newarray _ => 2
  | .anewarray _ => 3
  | .invokevirtual _ => 3
  | .invokespecial _ => 3
  | .invokestatic _ => 3
  | _ => 1
def z_isw : Jvm.ClassFile.Instr → Bool
  | .tableswitch _ _ _ _ => true
  | .lookupswitch _ _ => true
  | _ => false
def z_dec (mr : zMR) (q : Nat) (i : Jvm.ClassFile.Instr) : Bool := match decode (z_cc mr) q with
  | .ok r => and (decide (r.1 = i)) (or (z_isw i) (decide (r.2 = z_il i)))
  | .error _ => false
theorem z_dec_ok {mr : zMR} {q : Nat} {i : Jvm.ClassFile.Instr} (h : z_dec mr q i = true) : ∃ n, decode (z_cc mr) q = .ok (i, n) ∧ (z_isw i = true ∨ n = z_il i) := by
  unfold z_dec at h
  cases hd : decode (z_cc mr) q with
  | error e => rw [hd] at h; cases h
  | ok r =>
    rw [hd] at h
    dsimp only at h
    rw [Bool.and_eq_true, Bool.or_eq_true] at h
    obtain ⟨i', n⟩ := r
    have h1 : i' = i := of_decide_eq_true h.1
    subst h1
    exact ⟨n, rfl, h.2.imp id of_decide_eq_true⟩
noncomputable def z_w (tb : zTB) (n : Nat) (c : Jvm.Cond) : Bool := match z_at tb (n / 1000) with
  | some l => and (decide (z_at l (n % 1000) = some c)) (goodWord c)
  | none => false
theorem z_w_ok {tb : zTB} {n : Nat} {c : Jvm.Cond} (h : z_w tb n c = true) : c ∈ z_G tb := by
  unfold z_w at h
  rw [z_at_eq] at h
  cases hl : tb[n / 1000]? with
  | none => rw [hl] at h; cases h
  | some l =>
    rw [hl] at h
    have h : and (decide (z_at l (n % 1000) = some c)) (goodWord c) = true := h
    rw [Bool.and_eq_true] at h
    have h1 := of_decide_eq_true h.1
    rw [z_at_eq] at h1
    exact List.mem_filter.mpr ⟨List.mem_flatten.mpr ⟨l, List.mem_of_getElem? hl, List.mem_of_getElem? h1⟩, h.2⟩
/-- what the tables must say of an instruction -/
noncomputable def z_okI (tb : zTB) (nw : List Jvm.Cond) (cls : List vw_C) (ms : List zMR) (mr : zMR) (q : Nat) (i : Jvm.ClassFile.Instr) (x1 x2 x3 : Nat) : Bool := match i with
  | .ldc j => z_w tb x3 (.constant (z_y mr).cls j (nI x1))
  | .ifCond _ o => decide ((q : Int) + o = (x1 : Int))
  | .if_icmp _ o => decide ((q : Int) + o = (x1 : Int))
  | .ifnull o => decide ((q : Int) + o = (x1 : Int))
  | .ifnonnull o => decide ((q : Int) + o = (x1 : Int))
  | .goto o => decide ((q : Int) + o = (x1 : Int))
  | .getfield j => (match cls[x1]? with
    | some c => and (Nat.blt x2 c.2.2) (z_w tb x3 (.fieldLink (z_y mr).cls j (c.2.1 x2).1 (c.2.1 x2).2.1 (c.2.1 x2).2.2.1))
    | none => false)
  | .putfield j => (match cls[x1]? with
    | some c => and (and (Nat.blt x2 c.2.2) (z_w tb x3 (.fieldLink (z_y mr).cls j (c.2.1 x2).1 (c.2.1 x2).2.1 (c.2.1 x2).2.2.1))) (or (decide ((c.2.1 x2).2.2.2 = false)) (and (decide ((z_y mr).name = "<init>")) (decide ((c.2.1 x2).1 = (z_y mr).cls))))
    | none => false)
  | .new j => (match cls[x1]? with
    | some c => z_w tb x3 (.classLink (z_y mr).cls j c.1)
    | none => false)
  | .anewarray j => (match cls[x1]? with
    | some c => and (z_w tb x3 (.classLink (z_y mr).cls j c.1)) (decide (nw[x2]? = some (.arrayOver (.object c.1))))
    | none => false)
  | .invokevirtual j => (match ms[x1]? with
    | some cm => and (and (Nat.blt (z_ci cm) 100) (decide ((z_y cm).name ≠ "<init>"))) (and (decide ((parseMethodDescriptor (z_y cm).desc).map (fun d => d.parameters.length) = some (x2 % 100))) (z_w tb x3 (.methodLink (z_y mr).cls j (z_y cm))))
    | none => false)
  | .invokestatic j => (match ms[x1]? with
    | some cm => and (Nat.ble 100 (z_ci cm)) (and (decide ((parseMethodDescriptor (z_y cm).desc).map (fun d => d.parameters.length) = some (x2 % 100))) (cond (Nat.ble 100 x2) (match nw[x3]? with
        | some (.methodLinkNest a b y _) => and (and (decide (a = (z_y mr).cls)) (decide (b = j))) (decide (y = z_y cm))
        | _ => false) (and (z_w tb x3 (.methodLink (z_y mr).cls j (z_y cm))) (decide ((z_y cm).cls = (z_y mr).cls)))))
    | none => false)
  | .invokespecial j => cond (Nat.beq x2 50) (z_w tb x3 (.methodLink (z_y mr).cls j objectInit)) (match ms[x1]? with
    | some cm => and (and (Nat.blt (z_ci cm) 100) (and (decide ((z_y cm).name = "<init>")) (decide (z_rt cm = none)))) (and (decide ((parseMethodDescriptor (z_y cm).desc).map (fun d => d.parameters.length) = some (x2 % 100))) (cond (Nat.ble 100 x2) (match nw[x3]? with
        | some (.methodLinkNest a b y _) => and (and (decide (a = (z_y mr).cls)) (decide (b = j))) (decide (y = z_y cm))
        | _ => false) (z_w tb x3 (.methodLink (z_y mr).cls j (z_y cm)))))
    | none => false)
  | _ => true
noncomputable def z_okE (tb : zTB) (nw : List Jvm.Cond) (cls : List vw_C) (ms : List zMR) (mr : zMR) (x : zEnt) : Bool := and (z_dec mr x.1 x.2.1) (z_okI tb nw cls ms mr x.1 x.2.1 x.2.2.1 x.2.2.2.1 x.2.2.2.2)
/-- what the tables must say of a method: p1 its code, p2 its kind, p3 what it selects, p4 that its owner is ready -/
noncomputable def z_okM (tb : zTB) (cls : List vw_C) (mr : zMR) (p1 p2 p3 p4 : Nat) : Bool :=
  and (and (and (Nat.ble 0 p1) (z_w tb p4 (.initialized (z_y mr).cls))) (and (plainName (z_y mr).cls) (and (decide ((z_y mr).cls ≠ "java/lang/invoke/MethodHandle")) (decide ((z_y mr).cls ≠ "java/lang/invoke/VarHandle")))))
    (cond (Nat.blt (z_ci mr) 100) (and (and (z_w tb p2 (.instanceMethod (z_y mr))) (or (decide ((z_y mr).name = "<init>")) (z_w tb p3 (.selects (z_y mr).cls (z_y mr) (z_y mr))))) (decide ((cls[z_ci mr]?).map (fun c => c.1) = some (z_y mr).cls))) (z_w tb p2 (.static (z_y mr))))
theorem z_nest_ok {nw : List Jvm.Cond} {x3 j : Nat} {own : String} {yy : MethodName} (h : (match nw[x3]? with
    | some (.methodLinkNest a b y _) => and (and (decide (a = own)) (decide (b = j))) (decide (y = yy))
    | _ => false) = true) : ∃ host, Jvm.Cond.methodLinkNest own j yy host ∈ nw := by
  split at h
  · rename_i a b y hh hn
    have h1 : and (and (decide (a = own)) (decide (b = j))) (decide (y = yy)) = true := h
    rw [Bool.and_eq_true, Bool.and_eq_true] at h1
    have e1 := of_decide_eq_true h1.1.1
    have e2 := of_decide_eq_true h1.1.2
    have e3 := of_decide_eq_true h1.2
    subst e1; subst e2; subst e3
    exact ⟨hh, List.mem_of_getElem? hn⟩
  · cases h
end
section
-- what the small steps say when they answer true
theorem z_p1_ok {st : List zAV} {f : zAV → List zAV → Bool} (h : z_p1 st f = true) : ∃ a t, st = a :: t ∧ f a t = true := by
  cases st with
  | nil => cases h
  | cons a t => exact ⟨a, t, rfl, h⟩
theorem z_b2_ok {st : List zAV} {f : zAV → zAV → List zAV → Bool} (h : z_b2 st f = true) : ∃ a b t, st = b :: a :: t ∧ f a b t = true := by
  match st, h with
  | b :: a :: t, h => exact ⟨a, b, t, rfl, h⟩
  | [], h => cases h
  | [_], h => cases h
theorem z_pr_ok {st : List zAV} {f : Nat → List zAV → Bool} (h : z_pr st f = true) : ∃ a t, st = z_rf a :: t ∧ f a t = true := by
  match st, h with
  | .inr (.inr (.inl (some a))) :: t, h => exact ⟨a, t, rfl, h⟩
  | [], h => cases h
  | .inl _ :: _, h => cases h
  | .inr (.inl _) :: _, h => cases h
  | .inr (.inr (.inl none)) :: _, h => cases h
  | .inr (.inr (.inr _)) :: _, h => cases h
theorem z_one_ok {st : List zAV} {f : zAV → Bool} (h : z_one st f = true) : ∃ a, st = [a] ∧ f a = true := by
  match st, h with
  | [a], h => exact ⟨a, rfl, h⟩
  | [], h => cases h
  | _ :: _ :: _, h => cases h
theorem z_op_ok {α : Type} {o : Option α} {f : α → Bool} (h : z_op o f = true) : ∃ a, o = some a ∧ f a = true := by
  cases o with
  | none => cases h
  | some a => exact ⟨a, rfl, h⟩
theorem z_opl_ok {α : Type} {l : List α} {i : Nat} {f : α → Bool} (h : z_opl l i f = true) : ∃ a, l[i]? = some a ∧ f a = true := by
  obtain ⟨a, h1, h2⟩ := z_op_ok h
  exact ⟨a, (z_at_eq l i).symm.trans h1, h2⟩
theorem z_ob_ok {w : List zAE} {a : Nat} {f : Nat → List zAV → Bool} (h : z_ob w a f = true) : ∃ ci fs, w[a]? = some (.inl (ci, fs)) ∧ f ci fs = true := by
  unfold z_ob at h
  rw [z_at_eq] at h
  match hw : w[a]?, h with
  | some (.inl (ci, fs)), h => exact ⟨ci, fs, rfl, h⟩
  | some (.inr _), h => cases h
  | none, h => cases h
theorem z_ar_ok {w : List zAE} {a : Nat} {f : Nat → Nat → List zAV → Bool} (h : z_ar w a f = true) : ∃ kd n pr, w[a]? = some (.inr (kd, n, pr)) ∧ f kd n pr = true := by
  unfold z_ar at h
  rw [z_at_eq] at h
  match hw : w[a]?, h with
  | some (.inr (kd, n, pr)), h => exact ⟨kd, n, pr, rfl, h⟩
  | some (.inl _), h => cases h
  | none, h => cases h
theorem z_nul_ok {v : zAV} {A B : Bool} (h : z_nul v A B = true) : (v = z_null ∧ A = true) ∨ ∃ a, v = z_rf a ∧ B = true := by
  match v, h with
  | .inr (.inr (.inl none)), h => exact Or.inl ⟨rfl, h⟩
  | .inr (.inr (.inl (some a))), h => exact Or.inr ⟨a, rfl, h⟩
  | .inl _, h => cases h
  | .inr (.inl _), h => cases h
  | .inr (.inr (.inr _)), h => cases h
theorem z_rsc_ok {v : zAV} {f : Nat → Bool} {g : Bool} (h : z_rsc v f g = true) : (∃ a, v = z_rf a ∧ f a = true) ∨ (v = z_scr ∧ g = true) := by
  match v, h with
  | .inr (.inr (.inl (some a))), h => exact Or.inl ⟨a, rfl, h⟩
  | .inr (.inr (.inl none)), h => cases h
  | .inr (.inr (.inr 2)), h => exact Or.inr ⟨rfl, h⟩
  | .inr (.inr (.inr 0)), h => cases h
  | .inr (.inr (.inr 1)), h => cases h
  | .inr (.inr (.inr (_ + 3))), h => cases h
  | .inl _, h => cases h
  | .inr (.inl _), h => cases h
theorem z_lx_ok {lx : zLX} {f : Nat → Bool} (h : z_lx lx f = true) : ∃ L, lx.1 = L + 1 ∧ f L = true := by
  unfold z_lx at h
  match hl : lx.1, h with
  | 0, h => cases h
  | L + 1, h => exact ⟨L, rfl, h⟩
theorem z_ks_ok {v : zAV} {f g : Nat → Bool} (h : z_ks v f g = true) : (∃ u, v = .inl u ∧ f u = true) ∨ ∃ j, v = z_sy j ∧ g j = true := by
  match v, h with
  | .inl u, h => exact Or.inl ⟨u, rfl, h⟩
  | .inr (.inl j), h => exact Or.inr ⟨j, rfl, h⟩
  | .inr (.inr _), h => cases h
theorem z_cond {c A : Bool} (h : cond c A false = true) : c = true ∧ A = true := by
  cases c
  · cases h
  · exact ⟨rfl, h⟩
theorem z_and {a b : Bool} (h : and a b = true) : a = true ∧ b = true := by
  cases a
  · cases h
  · exact ⟨rfl, h⟩
theorem z_le_of {a b : Nat} (h : Nat.ble a b = true) : a ≤ b := Nat.le_of_ble_eq_true h
theorem z_lt_of {a b : Nat} (h : Nat.blt a b = true) : a < b := Nat.le_of_ble_eq_true h
theorem z_to_ok {q : Nat} {o : Int} {f : Nat → Bool} (h : z_to q o f = true) : ∃ tg : Nat, (q : Int) + o = (tg : Int) ∧ f tg = true := by
  unfold z_to at h
  rw [z_frc_eq] at h
  obtain ⟨h1, h2⟩ := z_cond h
  exact ⟨_, of_decide_eq_true h1, h2⟩
theorem z_ld_ok {f : zAV → Bool} {lo : List (Nat × zAV)} {j : Nat} {k : zAV → Bool} (h : z_ld f lo j k = true) : ∃ a, z_lk lo j = some a ∧ f a = true ∧ k a = true := by
  unfold z_ld at h
  cases hl : z_lk lo j with
  | none => rw [hl] at h; cases h
  | some a =>
    rw [hl] at h
    obtain ⟨h1, h2⟩ := z_cond h
    exact ⟨a, rfl, h1, h2⟩
theorem z_sto_ok {f : zAV → Bool} {mr : zMR} {lo : List (Nat × zAV)} {j : Nat} {st : List zAV} {k : List (Nat × zAV) → List zAV → Bool} (h : z_sto f mr lo j st k = true) : ∃ a t, st = a :: t ∧ f a = true ∧ j < z_mL mr ∧ k ((j, a) :: lo.filter (fun q => !(Nat.beq q.1 j))) t = true := by
  cases st with
  | nil => cases h
  | cons a t =>
    have h : cond (and (f a) (Nat.blt j (z_mL mr))) (z_del lo j fun lo' => k ((j, a) :: lo') t) false = true := h
    obtain ⟨h1, h2⟩ := z_cond h
    rw [z_del_eq] at h2
    exact ⟨a, t, rfl, (z_and h1).1, z_lt_of (z_and h1).2, h2⟩
theorem z_mk_ok {mr : zMR} {ce sl N : Nat} {w : List zAE} {e : zAE} {k : Nat → List zAE → Nat → Nat → Bool} (h : z_mk mr ce sl N w e k = true) : ce + 1 ≤ (z_rm mr).cells ∧ sl + N ≤ (z_rm mr).slots ∧ k w.length (w ++ [e]) (ce + 1) (sl + N) = true := by
  obtain ⟨h1, h2⟩ := z_cond h
  rw [z_frc_eq, z_app_eq, z_frc_eq, z_frc_eq, z_lnE_eq] at h2
  exact ⟨z_le_of (z_and h1).1, z_le_of (z_and h1).2, h2⟩
end
section
-- the tables' facts, all together
def z_cv : zAV → Value
  | .inl u => .int (nI u)
  | .inr (.inr (.inl none)) => .null
  | _ => .long 0
def z_cvo : zAV → Bool
  | .inl _ => true
  | .inr (.inr (.inl none)) => true
  | .inr (.inr (.inr 1)) => true
  | _ => false
theorem z_cv_ok {sg : Nat → Int32} {ad : List Nat} {b : Nat} {a : zAV} (h : z_cvo a = true) : z_g sg ad b a (z_cv a) := by
  match a, h with
  | .inl _, _ => exact rfl
  | .inr (.inr (.inl none)), _ => exact rfl
  | .inr (.inr (.inr 1)), _ => exact ⟨0, rfl⟩
  | .inr (.inl _), h => cases h
  | .inr (.inr (.inl (some _))), h => cases h
  | .inr (.inr (.inr 0)), h => cases h
  | .inr (.inr (.inr (_ + 2))), h => cases h
theorem z_cv_all {sg : Nat → Int32} {ad : List Nat} {b : Nat} : ∀ {dv : List zAV}, dv.all z_cvo = true → z_SR (z_g sg ad b) dv (dv.map z_cv)
  | [], _ => trivial
  | a :: dv, h => by
    rw [List.all_cons] at h
    exact ⟨z_cv_ok (z_and h).1, z_cv_all (z_and h).2⟩
def z_CF (tb : zTB) (cls : List vw_C) (zty : List (Nat → FieldType)) (zdv : List (List zAV)) : Prop := ∀ (ci : Nat) (c : vw_C), cls[ci]? = some c → (∀ x ∈ u_ws c.1 c.2.1 c.2.2, x ∈ z_G tb) ∧ (∀ a, a < c.2.2 → ∀ b, b < c.2.2 → a ≠ b → (c.2.1 a).2.1 ≠ (c.2.1 b).2.1) ∧ Jvm.Cond.instantiable c.1 c.2.2 ∈ z_G tb ∧ Jvm.Cond.initialized c.1 ∈ z_G tb ∧ ∃ (ty : Nat → FieldType) (dv : List zAV), zty[ci]? = some ty ∧ zdv[ci]? = some dv ∧ (∀ k, k < c.2.2 → parseFieldDescriptor (c.2.1 k).2.2.1 = some (ty k)) ∧ dv.all z_cvo = true ∧ ∀ j, j < c.2.2 → defaultValue (ty j) = vp_V (dv.map z_cv) j
def z_All (tb : zTB) (nw : List Jvm.Cond) (cls : List vw_C) (zty : List (Nat → FieldType)) (zdv : List (List zAV)) (ms : List zMR) : Prop :=
  z_CF tb cls zty zdv ∧ (Jvm.Cond.arrayClass .int ∈ z_G tb ∧ Jvm.Cond.arrayClass .byte ∈ z_G tb ∧ Jvm.Cond.arrayClass .boolean ∈ z_G tb ∧ Jvm.Cond.arrayClass .long ∈ z_G tb) ∧ (Jvm.Cond.instanceMethod objectInit ∈ z_G tb ∧ Jvm.Cond.code objectInit ⟨#[0xb1]⟩ 1 none ∈ z_G tb) ∧ ∀ (n : Nat) (cm : zMR), ms[n]? = some cm → ((∃ p1 p2 p3 p4, z_okM tb cls cm p1 p2 p3 p4 = true) ∧ Jvm.Cond.code (z_y cm) (z_cc cm) (z_mL cm) (z_rt cm) ∈ z_G tb) ∧ ∀ x ∈ z_cd cm, z_okE tb nw cls ms cm x = true
def z_sOK (n b : Nat) (sg : Nat → Int32) (s : State) (A : Nat → Prop) : Prop := ∀ L, n = L + 1 → va_X b L sg s s.heap ∧ b < s.heap.size ∧ ¬ A b
def z_Fix (tb : zTB) (nw : List Jvm.Cond) (cls : List vw_C) (ms : List zMR) (sg : Nat → Int32) (b : Nat) (p : Program) (R : Room) (s : State) (m : MethodId) (args : Array Value) (meth : Method) (c : Code) (A : Nat → Prop) (lx : zLX) (mr : zMR) : Prop :=
  p.tables.exec = Jvm.exec ∧ c.code = z_cc mr ∧ c.maxLocals = z_mL mr ∧ s.vm.findClass (z_y mr).cls = some m.cls ∧ (∀ x ∈ z_G tb, x.before args s = true) ∧ ((z_y mr).name = "<init>" → meth.name = "<init>") ∧ R = z_rm mr ∧ z_NW nw s ∧ (∀ q, s.heap.size ≤ q → A q) ∧ (∀ x ∈ z_cd mr, z_okE tb nw cls ms mr x = true) ∧ z_sOK lx.1 b sg s A
def z_St (cls : List vw_C) (D : va_G) (sg : Nat → Int32) (b : Nat) (s : State) (A : Nat → Prop) (ad0 : List Nat) (H : Heap) (locs : List Loc) (w : List zAE) (env : zEnv) (cw : va_W) (tys : List (ClassId × FieldType)) : Prop :=
  va_K D cls tys s ∧ va_P D cls cw H ∧ va_D A cw ∧ va_S A s.heap H locs ∧ z_WR cls (z_g sg (cw.map Prod.fst) b) tys w cw ∧ z_erel sg env ∧ z_le ad0 (cw.map Prod.fst)
def z_Fr (sg : Nat → Int32) (b : Nat) (cw : va_W) (nL : Nat) (ls : Array Slot) (lo : List (Nat × zAV)) (st : List zAV) (cst : List Value) : Prop :=
  (∃ lv, lv_has ls nL lv ∧ z_LR (z_g sg (cw.map Prod.fst) b) lo lv) ∧ z_SR (z_g sg (cw.map Prod.fst) b) st cst
/-- a method's end -/
def z_ret (sg : Nat → Int32) (b : Nat) (mr : zMR) (cw : va_W) (pc : Nat) (r : Option zAV) (cst : List Value) : Prop :=
  (r = none ∧ cst = [] ∧ z_rt mr = none ∧ decode (z_cc mr) pc = .ok (.return_, 1)) ∨
  (∃ a x ty, r = some a ∧ cst = [.int x] ∧ z_g sg (cw.map Prod.fst) b a (.int x) ∧ z_rt mr = some ty ∧ narrow ty (.int x) = .int x ∧ decode (z_cc mr) pc = .ok (.ireturn, 1)) ∨
  (∃ a v ty, r = some a ∧ cst = [v] ∧ z_g sg (cw.map Prod.fst) b a v ∧ (v = .null ∨ ∃ q, v = .ref q) ∧ z_rt mr = some ty ∧ ((∃ n, ty = .object n) ∨ ∃ t, ty = .array t) ∧ decode (z_cc mr) pc = .ok (.areturn, 1))
def z_End (cls : List vw_C) (l : Launch) (D : va_G) (sg : Nat → Int32) (b : Nat) (p : Program) (e : Env) (R : Room) (s : State) (m : MethodId) (args : Array Value) (below : List Frame) (meth : Method) (c : Code) (A : Nat → Prop) (ad0 : List Nat) (mr : zMR) (Q : State → Prop) (k : zK) : Prop :=
  ∀ (H : Heap) (locs : List Loc) (cw : va_W) (tys : List (ClassId × FieldType)) (ls : Array Slot) (cst : List Value) (pc ce sl : Nat) (env : zEnv) (w : List zAE) (r : Option zAV), z_St cls D sg b s A ad0 H locs w env cw tys → ce ≤ (z_rm mr).cells → sl ≤ (z_rm mr).slots → k env r w = true → z_ret sg b mr cw pc r cst → W p l e R s m args below meth c H locs ce sl Q (F0 m pc ls cst)
def z_Stop (cls : List vw_C) (l : Launch) (D : va_G) (sg : Nat → Int32) (b : Nat) (p : Program) (e : Env) (R : Room) (s : State) (m : MethodId) (args : Array Value) (below : List Frame) (meth : Method) (c : Code) (A : Nat → Prop) (ad0 : List Nat) (lx : zLX) (mr : zMR) (Q : State → Prop) : Prop :=
  ∀ (H : Heap) (locs : List Loc) (cw : va_W) (tys : List (ClassId × FieldType)) (ls : Array Slot) (cst : List Value) (pc : Nat) (lo : List (Nat × zAV)) (st : List zAV) (ce sl : Nat) (env : zEnv) (w : List zAE), z_St cls D sg b s A ad0 H locs w env cw tys → z_Fr sg b cw (z_mL mr) ls lo st cst → ce ≤ (z_rm mr).cells → sl ≤ (z_rm mr).slots → lx.2 pc lo st ce sl env w = true → W p l e R s m args below meth c H locs ce sl Q (F0 m pc ls cst)
def z_Snd (tb : zTB) (nw : List Jvm.Cond) (cls : List vw_C) (zty : List (Nat → FieldType)) (zdv : List (List zAV)) (ms : List zMR) (l : Launch) (D : va_G) (sg : Nat → Int32) (b : Nat) (n : Nat) : Prop :=
  ∀ (p : Program) (e : Env) (R : Room) (s : State) (m : MethodId) (args : Array Value) (below : List Frame) (meth : Method) (c : Code) (A : Nat → Prop) (ad0 : List Nat) (lx : zLX) (mr : zMR) (Q : State → Prop), z_Fix tb nw cls ms sg b p R s m args meth c A lx mr → ∀ (k : zK), z_End cls l D sg b p e R s m args below meth c A ad0 mr Q k → z_Stop cls l D sg b p e R s m args below meth c A ad0 lx mr Q →
  ∀ (H : Heap) (locs : List Loc) (cw : va_W) (tys : List (ClassId × FieldType)) (ls : Array Slot) (cst : List Value) (cd : List zEnt) (pc : Nat) (lo : List (Nat × zAV)) (st : List zAV) (ce sl : Nat) (env : zEnv) (w : List zAE), (∀ x ∈ cd, x ∈ z_cd mr) → z_St cls D sg b s A ad0 H locs w env cw tys → z_Fr sg b cw (z_mL mr) ls lo st cst → ce ≤ (z_rm mr).cells → sl ≤ (z_rm mr).slots →
    z_ev cls zty zdv ms n lx mr cd pc lo st ce sl env w k = true → W p l e R s m args below meth c H locs ce sl Q (F0 m pc ls cst)
-- a call's end, in these words
def z_RV (g : zAV → Value → Prop) : Option zAV → Option Value → Prop
  | none, none => True
  | some a, some v => g a v
  | _, _ => False
def z_Q (cls : List vw_C) (D : va_G) (sg : Nat → Int32) (b : Nat) (cw : va_W) (sz : Nat) (k : zK) : Array Value → State → Outcome → State → Prop := fun _ st oc t =>
  (∃ (env : zEnv) (r : Option zAV) (w : List zAE) (cw' : va_W) (tys' : List (ClassId × FieldType)) (rv : Option Value), oc = .returned rv ∧ k env r w = true ∧ z_RV (z_g sg (cw'.map Prod.fst) b) r rv ∧ z_erel sg env ∧ z_le (cw.map Prod.fst) (cw'.map Prod.fst) ∧ va_P D cls cw' t.heap ∧ va_K D cls tys' t ∧ va_D (va_A cw sz) cw' ∧ z_WR cls (z_g sg (cw'.map Prod.fst) b) tys' w cw') ∧ va_F (va_A cw sz) st t
def z_Pc (nw : List Jvm.Cond) (cls : List vw_C) (D : va_G) (cw : va_W) (tys : List (ClassId × FieldType)) (sz : Nat) (av : List Value) : Array Value → State → Prop := va_Pc av (fun U => U.heap.size = sz ∧ va_P D cls cw U.heap ∧ va_K D cls tys U ∧ va_D (fun _ => True) cw ∧ z_NW nw U)
theorem z_arg_c1 {sg : Nat → Int32} {ad : List Nat} {b : Nat} (a : zAV) (v : Value) (h : z_arg a = true) (hg : z_g sg ad b a v) : v.category = 1 := by
  unfold z_arg at h
  rw [Bool.or_eq_true] at h
  rcases h with h | h
  · obtain ⟨x, rfl⟩ := z_isI_ok h hg
    rfl
  · rcases z_isO_ok h hg with rfl | ⟨q, rfl⟩ <;> rfl
set_option maxHeartbeats 4000000 in
theorem z_met {tb : zTB} {nw : List Jvm.Cond} {cls : List vw_C} {zty : List (Nat → FieldType)} {zdv : List (List zAV)} {ms : List zMR} {l : Launch} {D : va_G} {sg : Nat → Int32} {b n : Nat} (hA : z_All tb nw cls zty zdv ms) (hS : z_Snd tb nw cls zty zdv ms l D sg b n)
    {x1 : Nat} {cm : zMR} (hcm : ms[x1]? = some cm) {cw : va_W} {tys : List (ClassId × FieldType)} {sz : Nat} {as : List zAV} {av : List Value} {env : zEnv} {w : List zAE} {k : zK} (hargs : z_all z_arg as = true) (hsr : z_SR (z_g sg (cw.map Prod.fst) b) as av) (hlen : as.length ≤ z_mL cm) (he : z_erel sg env) (hw : z_WR cls (z_g sg (cw.map Prod.fst) b) tys w cw)
    (hev : z_ev cls zty zdv ms n z_l0 cm (z_cd cm) 0 (z_en as 0) [] 0 0 env w k = true) :
    Met l (z_y cm) (z_ws tb cm) (z_rm cm) (z_Pc nw cls D cw tys sz av) (z_Q cls D sg b cw sz k) (z_rm cm).cells (z_rm cm).slots (va_A cw sz) := by
  obtain ⟨⟨⟨p1, p2, p3, p4, hok⟩, hcw⟩, hcode⟩ := hA.2.2.2 x1 cm hcm
  have hpl : plainName (z_y cm).cls = true := (z_and (z_and (z_and hok).1).2).1
  refine Met.ofW (cc := z_cc cm) (maxL := z_mL cm) (ret := z_rt cm) hpl rfl ?_
  intro p e s m args below meth c s₁ B hml hv
  obtain ⟨rfl, hsz, hP, hK, hD0, hN⟩ := hv
  subst hsz
  have hD := hD0.self (sz := s.heap.size)
  have hts := atoms_spec (ws := z_ws tb cm) B.pre
  obtain ⟨hl1, hl2⟩ := z_en_ok (g := z_g sg (cw.map Prod.fst) b) z_arg_c1 0 hargs hsr
  have hl := lv_entry av (n := z_mL cm) (by rw [hl2, ← z_SR_len hsr]; exact hlen)
  rw [lg_entry_eq]
  refine hS p e _ s m av.toArray below meth c (va_A cw s.heap.size) (cw.map Prod.fst) z_l0 cm (MQ below (z_Q cls D sg b cw s.heap.size k) av.toArray s (z_rm cm).cells (z_rm cm).slots (va_A cw s.heap.size))
    ⟨B.exec, B.bytes, hml, findClass_of_methodNamed B.named, fun x hx => hts x (List.mem_cons_of_mem _ hx), fun hi => by rw [(name_of_methodNamed B.named B.method).1]; exact hi, rfl, hN, fun q h => Or.inr h, hcode, fun L h => by cases h⟩ k ?_ (fun H locs cw tys ls cst pc lo st ce sl env w _ _ _ _ h => by cases h)
    s.heap [] cw tys _ [] (z_cd cm) 0 (z_en as 0) [] 0 0 env w (fun x h => h) ⟨hK, hP, hD, va_S.rf, hw, he, fun _ _ h => h⟩ ⟨⟨_, hl, hl1⟩, trivial⟩ (Nat.zero_le _) (Nat.zero_le _) hev
  intro H locs cw1 tys1 ls cst pc ce sl env1 w1 r hSt hce hsl hk hret
  obtain ⟨hK1, hP1, hD1, hS1, hw1, he1, hle1⟩ := hSt
  refine W.widen hce hsl ?_
  have hlocks := B.notSynchronized
  rcases hret with ⟨rfl, rfl, h3, h4⟩ | ⟨a, x, ty, rfl, rfl, h3, h4, h5, h6⟩ | ⟨a, v, ty, rfl, rfl, h3, h4, h5, h6, h7⟩
  · exact W.vret B.exec B.bytes (by rw [B.returns]; exact h3) (fun t ht hW => ⟨⟨env1, none, w1, cw1, tys1, none, rfl, hk, trivial, he1, hle1, by rw [ht]; exact hP1, va_K.moved hW.alike hK1, hD1, hw1⟩, hS1.F ht⟩) hS1.2.2 h4
  · exact W.zret B.exec B.bytes (by rw [B.returns]; exact h4) h5 (fun t ht hW => ⟨⟨env1, some a, w1, cw1, tys1, some (.int x), rfl, hk, h3, he1, hle1, by rw [ht]; exact hP1, va_K.moved hW.alike hK1, hD1, hw1⟩, hS1.F ht⟩) hS1.2.2 h6
  · exact W.aret B.exec B.bytes (by rw [B.returns]; exact h5) h6 h4 (fun t ht hW => ⟨⟨env1, some a, w1, cw1, tys1, some v, rfl, hk, h3, he1, hle1, by rw [ht]; exact hP1, va_K.moved hW.alike hK1, hD1, hw1⟩, hS1.F ht⟩) hS1.2.2 h7
end
section
theorem z_good {tb : zTB} {x : Jvm.Cond} (h : x ∈ z_G tb) : (x.onTables && x.keeps) = true ∨ ∃ ty, x = .arrayClass ty := good_of_word (List.mem_filter.mp h).2
theorem z_goodIn {tb : zTB} {cm : zMR} (h : Jvm.Cond.code (z_y cm) (z_cc cm) (z_mL cm) (z_rt cm) ∈ z_G tb) : GoodIn (z_G tb) (z_ws tb cm) := by
  intro x hx
  rcases List.mem_cons.mp hx with rfl | hx
  · exact ⟨h, z_good h⟩
  · exact ⟨hx, z_good hx⟩
theorem z_goodV {tb : zTB} {cm : zMR} {own : String} {idx : Nat} (h : Jvm.Cond.code (z_y cm) (z_cc cm) (z_mL cm) (z_rt cm) ∈ z_G tb) (h1 : Jvm.Cond.methodLink own idx (z_y cm) ∈ z_G tb) (h2 : Jvm.Cond.instanceMethod (z_y cm) ∈ z_G tb) (h3 : Jvm.Cond.selects (z_y cm).cls (z_y cm) (z_y cm) ∈ z_G tb) (h4 : Jvm.Cond.initialized (z_y cm).cls ∈ z_G tb) : GoodIn (z_G tb) (wsV own idx (z_y cm).cls (z_y cm) (z_ws tb cm)) := by
  intro x hx
  rcases List.mem_append.mp hx with hx | hx
  · have hm : x ∈ z_G tb := by
      simp only [List.mem_cons, List.not_mem_nil, or_false] at hx
      rcases hx with rfl | rfl | rfl | rfl <;> assumption
    exact ⟨hm, z_good hm⟩
  · exact z_goodIn h x hx
theorem z_goodS {tb : zTB} {cm : zMR} {own : String} {idx : Nat} (h : Jvm.Cond.code (z_y cm) (z_cc cm) (z_mL cm) (z_rt cm) ∈ z_G tb) (h1 : Jvm.Cond.methodLink own idx (z_y cm) ∈ z_G tb) (h2 : Jvm.Cond.static (z_y cm) ∈ z_G tb) (h4 : Jvm.Cond.initialized own ∈ z_G tb) : GoodIn (z_G tb) (wsS own idx (z_y cm) (z_ws tb cm)) := by
  intro x hx
  rcases List.mem_append.mp hx with hx | hx
  · have hm : x ∈ z_G tb := by
      simp only [List.mem_cons, List.not_mem_nil, or_false] at hx
      rcases hx with rfl | rfl | rfl <;> assumption
    exact ⟨hm, z_good hm⟩
  · exact z_goodIn h x hx
/-- what z_okM says -/
theorem z_okM_ok {tb : zTB} {cls : List vw_C} {mr : zMR} {p1 p2 p3 p4 : Nat} (hcw : Jvm.Cond.code (z_y mr) (z_cc mr) (z_mL mr) (z_rt mr) ∈ z_G tb) (h : z_okM tb cls mr p1 p2 p3 p4 = true) : Jvm.Cond.code (z_y mr) (z_cc mr) (z_mL mr) (z_rt mr) ∈ z_G tb ∧ Jvm.Cond.initialized (z_y mr).cls ∈ z_G tb ∧ ((z_y mr).cls ≠ "java/lang/invoke/MethodHandle" ∧ (z_y mr).cls ≠ "java/lang/invoke/VarHandle") ∧ (z_ci mr < 100 → (Jvm.Cond.instanceMethod (z_y mr) ∈ z_G tb ∧ ((z_y mr).name = "<init>" ∨ Jvm.Cond.selects (z_y mr).cls (z_y mr) (z_y mr) ∈ z_G tb)) ∧ ∃ q, cls[z_ci mr]? = some q ∧ q.1 = (z_y mr).cls) ∧ (100 ≤ z_ci mr → Jvm.Cond.static (z_y mr) ∈ z_G tb) := by
  unfold z_okM at h
  obtain ⟨h1, h2⟩ := z_and h
  obtain ⟨h3, h4⟩ := z_and h1
  obtain ⟨h5, h6⟩ := z_and h3
  obtain ⟨h7, h8⟩ := z_and h4
  obtain ⟨h9, h10⟩ := z_and h8
  refine ⟨hcw, z_w_ok h6, ⟨of_decide_eq_true h9, of_decide_eq_true h10⟩, fun hc => ?_, fun hc => ?_⟩
  · rw [show Nat.blt (z_ci mr) 100 = true from by unfold Nat.blt; rw [Nat.ble_eq]; omega, cond_true] at h2
    obtain ⟨h11, h12⟩ := z_and h2
    obtain ⟨a1, a2⟩ := z_and h11
    rw [Bool.or_eq_true] at a2
    refine ⟨⟨z_w_ok a1, a2.imp of_decide_eq_true z_w_ok⟩, ?_⟩
    have h13 := of_decide_eq_true h12
    cases hq : cls[z_ci mr]? with
    | none => rw [hq] at h13; cases h13
    | some q => rw [hq] at h13; exact ⟨q, rfl, Option.some.inj h13⟩
  · rw [show Nat.blt (z_ci mr) 100 = false from by rw [← Bool.not_eq_true]; unfold Nat.blt; rw [Nat.ble_eq]; omega, cond_false] at h2
    exact z_w_ok h2
section ZC
variable {p : Program} {l : Launch} {e : Env} {R : Room} {s : State} {m : MethodId} {args : Array Value} {below : List Frame} {meth : Method} {c : Code} {H : Heap} {locs : List Loc} {cells slots : Nat} {Q : State → Prop}
theorem z_goon {pc : Nat} {ls : Array Slot} {st0 rest : List Value} {mc ms : Nat} {free : Addr → Prop} {Qa : State → Outcome → State → Prop} (hr : va_Run p l e R s m args below meth c H locs cells slots mc ms (F0 m pc ls st0) rest Qa free)
    (kk : ∀ (v : Option Value) (st₀ t : State) (H1 : Heap) (locs1 : List Loc), st₀.heap = H → t.heap = H1 → s.vm.Alike t.vm → Qa st₀ (.returned v) t → (∀ q ∈ locs1, q ∈ locs ∨ free q.base) → W p l e R s m args below meth c H1 locs1 (cells + mc) (slots + ms) Q (F0 m (pc + 3) ls (v.toList ++ rest))) : W p l e R s m args below meth c H locs cells slots Q (F0 m pc ls st0) := by
  intro T hT X
  obtain ⟨v, st₀, t, T', L, h0, X', hL, e1, e2, hq, st⟩ := hr T hT X
  obtain ⟨t2, a1, b1⟩ := kk v st₀ t T'.heap (locs ++ L) h0 e1.symm (by rw [← e2]; exact X'.warmed.alike) hq (fun q h => (List.mem_append.mp h).imp id (hL q)) T' rfl X'
  exact ⟨t2, st t2 a1, b1⟩
end ZC
section ZD
variable {tb : zTB} {nw : List Jvm.Cond} {cls : List vw_C} {zty : List (Nat → FieldType)} {zdv : List (List zAV)} {ms : List zMR} {l : Launch} {D : va_G} {sg : Nat → Int32} {b n : Nat}
variable {p : Program} {e : Env} {R : Room} {s : State} {m : MethodId} {args : Array Value} {below : List Frame} {meth : Method} {c : Code} {A : Nat → Prop} {ad0 : List Nat} {lx : zLX} {mr : zMR} {Q : State → Prop}
variable {H : Heap} {locs : List Loc} {cw : va_W} {tys : List (ClassId × FieldType)} {ls : Array Slot} {cst : List Value} {pc : Nat} {lo : List (Nat × zAV)} {st : List zAV} {ce sl : Nat} {env : zEnv} {w : List zAE}
set_option maxHeartbeats 4000000 in
theorem z_call_ok (hA : z_All tb nw cls zty zdv ms) (hS : z_Snd tb nw cls zty zdv ms l D sg b n) (hF : z_Fix tb nw cls ms sg b p R s m args meth c A lx mr) (hSt : z_St cls D sg b s A ad0 H locs w env cw tys) {x1 : Nat} {cm : zMR} (hcm : ms[x1]? = some cm) {as t : List zAV} {av ct : List Value} {cont : zEnv → List zAV → Nat → Nat → List zAE → Bool}
    (hev : z_call (z_ev cls zty zdv ms n) mr cm as t ce sl env w cont = true) (hsr : z_SR (z_g sg (cw.map Prod.fst) b) as av) (hst : z_SR (z_g sg (cw.map Prod.fst) b) t ct)
    (hrun : (ct.map fun v => v.category).sum ≤ 8 → ((z_rm cm).frames + 1 ≤ R.frames ∧ 8 + (z_mL cm + 11) + (z_rm cm).locals ≤ R.locals) → (ce + (z_rm cm).cells ≤ R.cells ∧ sl + (z_rm cm).slots ≤ R.slots) → PreS s H (z_Pc nw cls D cw tys H.size av) av → ∀ k : zK, Met l (z_y cm) (z_ws tb cm) (z_rm cm) (z_Pc nw cls D cw tys H.size av) (z_Q cls D sg b cw H.size k) (z_rm cm).cells (z_rm cm).slots (va_A cw H.size) → va_Run p l e R s m args below meth c H locs ce sl (z_rm cm).cells (z_rm cm).slots (F0 m pc ls cst) ct (z_Q cls D sg b cw H.size k av.toArray) (va_A cw H.size))
    (kk : ∀ (env' : zEnv) (t' : List zAV) (w' : List zAE) (H1 : Heap) (locs1 : List Loc) (cw' : va_W) (tys' : List (ClassId × FieldType)) (ct' : List Value), cont env' t' (ce + (z_rm cm).cells) (sl + (z_rm cm).slots) w' = true → z_St cls D sg b s A ad0 H1 locs1 w' env' cw' tys' → z_SR (z_g sg (cw'.map Prod.fst) b) t' ct' → z_le (cw.map Prod.fst) (cw'.map Prod.fst) → ce + (z_rm cm).cells ≤ (z_rm mr).cells → sl + (z_rm cm).slots ≤ (z_rm mr).slots → W p l e R s m args below meth c H1 locs1 (ce + (z_rm cm).cells) (sl + (z_rm cm).slots) Q (F0 m (pc + 3) ls ct')) : W p l e R s m args below meth c H locs ce sl Q (F0 m pc ls cst) := by
  obtain ⟨h1, h2⟩ := z_cond hev
  rw [z_frc_eq, z_frc_eq] at h2
  obtain ⟨g1, g2⟩ := z_and h1
  obtain ⟨g3, g4⟩ := z_and g1
  obtain ⟨g5, g6⟩ := z_and g3
  obtain ⟨g7, g8⟩ := z_and g6
  obtain ⟨g9, g10⟩ := z_and g2
  obtain ⟨g11, g12⟩ := z_and g9
  obtain ⟨g13, g14⟩ := z_and g10
  have hR : R = z_rm mr := hF.2.2.2.2.2.2.1
  have hN : z_NW nw s := hF.2.2.2.2.2.2.2.1
  have hA0 : ∀ q, s.heap.size ≤ q → A q := hF.2.2.2.2.2.2.2.2.1
  obtain ⟨hK, hP, hD, hS0, hw, he, hle⟩ := hSt
  have hM := z_met (sz := H.size) hA hS hcm g5 hsr (by rw [← z_len_eq]; exact z_le_of g4) he hw h2
  have hcat : (ct.map fun v => v.category).sum ≤ 8 := by
    rw [z_SR_cat (fun a v h hg => z_c1_ok h hg) g7 hst, ← z_SR_len hst, ← z_len_eq]
    exact z_le_of g8
  have hpre : PreS s H (z_Pc nw cls D cw tys H.size av) av := ⟨fun a U g mk q => by
      obtain ⟨q0, q1, qP, qK, qD, qN⟩ := q
      exact ⟨q0, q1, qP, va_K.moved (u := U) (U := U.calling g mk a) (Vm.Alike.refl U.vm) qK, qD, z_NW_same rfl qN⟩,
    fun U hU hW => ⟨rfl, by rw [hU], by rw [hU]; exact hP, va_K.moved hW.alike hK, hD.weaken (fun _ _ _ _ => trivial), z_NW_warm hW hN⟩⟩
  refine z_goon (hrun hcat (by rw [hR]; exact ⟨z_le_of g11, z_le_of g12⟩) (by rw [hR]; exact ⟨z_le_of g13, z_le_of g14⟩) hpre _ hM) ?_
  intro v st₀ t1 H1 locs1 e0 e1 hvm hq hloc
  obtain ⟨⟨env', r, w', cw', tys', rv, q1, q2, q3, q4, q5, q6, q7, q8, q9⟩, hz, hk⟩ := hq
  have q1 : v = rv := by cases q1; rfl
  subst q1
  rw [e0] at hz hk
  have hfree : ∀ q, va_A cw H.size q → A q := by
    intro q h
    rcases h with ⟨k, x, h⟩ | h
    · exact hD.2 k _ h
    · exact hA0 q (Nat.le_trans hS0.1 h)
  have hst' : z_SR (z_g sg (cw'.map Prod.fst) b) t ct := z_SR_mono (fun a v => z_g_mono q5) hst
  have hSt' : z_St cls D sg b s A ad0 H1 locs1 w' env' cw' tys' := by
    refine ⟨va_K.moved hvm.symm q7, by rw [← e1]; exact q6, q8.weaken (fun k q _ h => hfree q.1 h), ⟨Nat.le_trans hS0.1 (by rw [← e1]; exact hz), fun q h1 h2 => ?_, fun q h => ?_⟩, q9, q4, fun k a h => q5 k a (hle k a h)⟩
    · rw [← e1, hk q (Nat.lt_of_lt_of_le h1 hS0.1) (fun z => h2 (hfree q z))]
      exact hS0.2.1 q h1 h2
    · rcases hloc q h with h | h
      · exact hS0.2.2 q h
      · exact hfree _ h
  match r, v, q2, q3 with
  | none, none, q2, _ => exact kk env' t w' H1 locs1 cw' tys' ct q2 hSt' hst' q5 (z_le_of g13) (z_le_of g14)
  | some a, some x, q2, q3 => exact kk env' (a :: t) w' H1 locs1 cw' tys' (x :: ct) q2 hSt' ⟨q3, hst'⟩ q5 (z_le_of g13) (z_le_of g14)
  | none, some _, _, q3 => exact q3.elim
  | some _, none, _, q3 => exact q3.elim
end ZD
end
section
theorem z_gun {sg : Nat → Int32} {ad : List Nat} {b : Nat} (x : Int32) : z_g sg ad b (.inl (z_un x)) (.int x) := congrArg Value.int (z_nI_un x).symm
theorem z_SR_cons {g : zAV → Value → Prop} {a : zAV} {t : List zAV} {vs : List Value} (h : z_SR g (a :: t) vs) : ∃ v ct, vs = v :: ct ∧ g a v ∧ z_SR g t ct := by
  cases vs with
  | nil => exact h.elim
  | cons v ct => exact ⟨v, ct, rfl, h.1, h.2⟩
theorem z_SR_nil {g : zAV → Value → Prop} {vs : List Value} (h : z_SR g [] vs) : vs = [] := by
  cases vs with
  | nil => rfl
  | cons v ct => exact h.elim
theorem z_dl {mr : zMR} {q len : Nat} {i : Jvm.ClassFile.Instr} (hdg : decode (z_cc mr) q = .ok (i, len)) (h : z_isw i = true ∨ len = z_il i) (hs : z_isw i = false) : decode (z_cc mr) q = .ok (i, z_il i) := by
  rcases h with h | h
  · rw [hs] at h; cases h
  · rw [← h]; exact hdg
theorem z_br_int {c : Jvm.ClassFile.Cond} {a b : zAV} {env : zEnv} {re T F : zEnv → Bool} (h : z_br c a b env re T F = true) : z_isI a = true ∧ z_isI b = true := by
  match a, b, h with
  | .inl _, .inl _, _ => exact ⟨rfl, rfl⟩
  | .inl _, .inr (.inl _), _ => exact ⟨rfl, rfl⟩
  | .inr (.inl _), .inl _, _ => exact ⟨rfl, rfl⟩
  | .inr (.inl _), .inr (.inl _), _ => exact ⟨rfl, rfl⟩
  | .inr (.inr _), _, h => cases h
  | .inl _, .inr (.inr _), h => cases h
  | .inr (.inl _), .inr (.inr _), h => cases h
theorem z_off {d k : Int} : ∀ {ps : List (Int × Int)}, (∀ p ∈ ps, p.1 ≠ k) → Op.lookupswitch.offset ps d k = d
  | [], _ => rfl
  | (a, o) :: r, h => by
    rw [Op.lookupswitch.offset_cons, if_neg (h (a, o) List.mem_cons_self)]
    exact z_off (fun p hp => h p (List.mem_cons_of_mem _ hp))
section ZR
variable {p : Program} {l : Launch} {e : Env} {R : Room} {s : State} {m : MethodId} {args : Array Value} {below : List Frame} {meth : Method} {c : Code} {H : Heap} {locs : List Loc} {cells slots : Nat} {Q : State → Prop}
variable {cc : ByteArray} {pc : Nat} {ls : Array Slot} {rest : List Value}
theorem z_icmp (hexec : p.tables.exec = Jvm.exec) (hb : c.code = cc) {cd : Jvm.ClassFile.Cond} {x y : Int32} {off : Int} {tgt : Nat} (hdg : decode cc pc = .ok (.if_icmp cd off, 3)) (ht : (pc : Int) + off = (tgt : Int))
    (kt : z_hold cd x y → W p l e R s m args below meth c H locs cells slots Q (F0 m tgt ls rest)) (kf : ¬ z_hold cd x y → W p l e R s m args below meth c H locs cells slots Q (F0 m (pc + 3) ls rest)) : W p l e R s m args below meth c H locs cells slots Q (F0 m pc ls (.int y :: .int x :: rest)) := by
  cases cd
  · exact lv_icmp_eq hexec hb hdg ht kt kf
  · exact lv_icmp_ne hexec hb hdg ht kt (fun h => kf (fun n => n h))
  · exact lv_icmp_lt hexec hb hdg ht kt kf
  · exact lv_icmp_ge hexec hb hdg ht kt kf
  · exact lv_icmp_gt hexec hb hdg ht kt kf
  · exact lv_icmp_le hexec hb hdg ht kt kf
theorem z_if0 (hexec : p.tables.exec = Jvm.exec) (hb : c.code = cc) {cd : Jvm.ClassFile.Cond} {x : Int32} {off : Int} {tgt : Nat} (hdg : decode cc pc = .ok (.ifCond cd off, 3)) (ht : (pc : Int) + off = (tgt : Int))
    (kt : z_hold cd x 0 → W p l e R s m args below meth c H locs cells slots Q (F0 m tgt ls rest)) (kf : ¬ z_hold cd x 0 → W p l e R s m args below meth c H locs cells slots Q (F0 m (pc + 3) ls rest)) : W p l e R s m args below meth c H locs cells slots Q (F0 m pc ls (.int x :: rest)) := by
  cases cd
  · exact lv_if_eq hexec hb hdg ht kt kf
  · exact lv_if_ne hexec hb hdg ht kt (fun h => kf (fun n => n h))
  · exact lv_if_lt hexec hb hdg ht kt kf
  · exact lv_if_ge hexec hb hdg ht kt kf
  · exact lv_if_gt hexec hb hdg ht kt kf
  · exact lv_if_le hexec hb hdg ht kt kf
end ZR
/-- a cell that holds fields, found -/
theorem z_obj {cls : List vw_C} {sg : Nat → Int32} {b : Nat} {tys : List (ClassId × FieldType)} {w : List zAE} {cw : va_W} {a ci adr : Nat} {fs : List zAV} (hw : z_WR cls (z_g sg (cw.map Prod.fst) b) tys w cw) (h : w[a]? = some (.inl (ci, fs))) (ha : (cw.map Prod.fst)[a]? = some adr) : ∃ vs, cw[a]? = some (adr, .inr (ci, vs)) ∧ z_SR (z_g sg (cw.map Prod.fst) b) fs vs := by
  obtain ⟨⟨xa, xe⟩, h1, h2⟩ := z_WR_get hw h
  have h3 : xa = adr := z_ref_at ha h1
  subst h3
  cases xe with
  | inl _ => exact h2.elim
  | inr q =>
    obtain ⟨cj, vs⟩ := q
    have h4 : ci = cj := h2.1
    subst h4
    exact ⟨vs, h1, h2.2⟩
/-- a cell that is a row, found -/
theorem z_row {cls : List vw_C} {sg : Nat → Int32} {b : Nat} {tys : List (ClassId × FieldType)} {w : List zAE} {cw : va_W} {a kd n adr : Nat} {pr : List zAV} (hw : z_WR cls (z_g sg (cw.map Prod.fst) b) tys w cw) (h : w[a]? = some (.inr (kd, n, pr))) (ha : (cw.map Prod.fst)[a]? = some adr) : ∃ (cA : ClassId) (d : (Nat → Int32) ⊕ (Nat → Int64) ⊕ (Nat → UInt32) ⊕ (Nat → UInt64) ⊕ (Nat → Option Nat)) (t0 : Nat), cw[a]? = some (adr, .inl (cA, n, d)) ∧ tys[t0]? = some (cA, z_kty cls kd) ∧ z_DR (z_g sg (cw.map Prod.fst) b) kd pr d := by
  obtain ⟨⟨xa, xe⟩, h1, h2⟩ := z_WR_get hw h
  have h3 : xa = adr := z_ref_at ha h1
  subst h3
  cases xe with
  | inr _ => exact h2.elim
  | inl q =>
    obtain ⟨cA, m, d⟩ := q
    have h4 : n = m := h2.1
    subst h4
    obtain ⟨t0, h5⟩ := h2.2.1
    exact ⟨cA, d, t0, h1, h5, h2.2.2⟩
theorem z_fl_ok {tb : zTB} {cls : List vw_C} {own : String} {x1 x2 x3 j : Nat} (h : (match cls[x1]? with
    | some c => and (Nat.blt x2 c.2.2) (z_w tb x3 (.fieldLink own j (c.2.1 x2).1 (c.2.1 x2).2.1 (c.2.1 x2).2.2.1))
    | none => false) = true) : ∃ c, cls[x1]? = some c ∧ x2 < c.2.2 ∧ Jvm.Cond.fieldLink own j (c.2.1 x2).1 (c.2.1 x2).2.1 (c.2.1 x2).2.2.1 ∈ z_G tb := by
  cases hc : cls[x1]? with
  | none => rw [hc] at h; cases h
  | some c =>
    rw [hc] at h
    exact ⟨c, rfl, z_lt_of (z_and h).1, z_w_ok (z_and h).2⟩
theorem z_fp_ok {tb : zTB} {cls : List vw_C} {y : MethodName} {x1 x2 x3 j : Nat} (h : (match cls[x1]? with
    | some c => and (and (Nat.blt x2 c.2.2) (z_w tb x3 (.fieldLink y.cls j (c.2.1 x2).1 (c.2.1 x2).2.1 (c.2.1 x2).2.2.1))) (or (decide ((c.2.1 x2).2.2.2 = false)) (and (decide (y.name = "<init>")) (decide ((c.2.1 x2).1 = y.cls))))
    | none => false) = true) : ∃ c, cls[x1]? = some c ∧ x2 < c.2.2 ∧ Jvm.Cond.fieldLink y.cls j (c.2.1 x2).1 (c.2.1 x2).2.1 (c.2.1 x2).2.2.1 ∈ z_G tb ∧ ((c.2.1 x2).2.2.2 = false ∨ (y.name = "<init>" ∧ (c.2.1 x2).1 = y.cls)) := by
  cases hc : cls[x1]? with
  | none => rw [hc] at h; cases h
  | some c =>
    rw [hc] at h
    obtain ⟨h1, h2⟩ := z_and h
    rw [Bool.or_eq_true] at h2
    exact ⟨c, rfl, z_lt_of (z_and h1).1, z_w_ok (z_and h1).2, h2.imp of_decide_eq_true (fun z => ⟨of_decide_eq_true (z_and z).1, of_decide_eq_true (z_and z).2⟩)⟩
theorem z_nl_ok {tb : zTB} {cls : List vw_C} {own : String} {x1 x3 j : Nat} (h : (match cls[x1]? with
    | some c => z_w tb x3 (.classLink own j c.1)
    | none => false) = true) : ∃ c, cls[x1]? = some c ∧ Jvm.Cond.classLink own j c.1 ∈ z_G tb := by
  cases hc : cls[x1]? with
  | none => rw [hc] at h; cases h
  | some c => rw [hc] at h; exact ⟨c, rfl, z_w_ok h⟩
theorem z_al_ok {tb : zTB} {nw : List Jvm.Cond} {cls : List vw_C} {own : String} {x1 x2 x3 j : Nat} (h : (match cls[x1]? with
    | some c => and (z_w tb x3 (.classLink own j c.1)) (decide (nw[x2]? = some (.arrayOver (.object c.1))))
    | none => false) = true) : ∃ c, cls[x1]? = some c ∧ Jvm.Cond.classLink own j c.1 ∈ z_G tb ∧ Jvm.Cond.arrayOver (.object c.1) ∈ nw := by
  cases hc : cls[x1]? with
  | none => rw [hc] at h; cases h
  | some c => rw [hc] at h; exact ⟨c, rfl, z_w_ok (z_and h).1, List.mem_of_getElem? (of_decide_eq_true (z_and h).2)⟩
/-- behind a new cell -/
theorem z_St_push {cls : List vw_C} {D : va_G} {sg : Nat → Int32} {b : Nat} {s : State} {A : Nat → Prop} {ad0 : List Nat} {H1 : Heap} {locs : List Loc} {w : List zAE} {env : zEnv} {cw : va_W} {tys tys' : List (ClassId × FieldType)} {x : Nat × va_E} {en : zAE} (hK : va_K D cls tys' s) (hP : va_P D cls (cw ++ [x]) H1) (hD : va_D A (cw ++ [x])) (hS : va_S A s.heap H1 locs) (hw : z_WR cls (z_g sg (cw.map Prod.fst) b) tys w cw) (ht : ∀ (t0 : Nat) (q : ClassId × FieldType), tys[t0]? = some q → tys'[t0]? = some q) (hx : z_ER cls (z_g sg ((cw ++ [x]).map Prod.fst) b) tys' en x.2) (he : z_erel sg env) (hle : z_le ad0 (cw.map Prod.fst)) : z_St cls D sg b s A ad0 H1 locs (w ++ [en]) env (cw ++ [x]) tys' :=
  ⟨hK, hP, hD, hS, z_WR_push hx (z_WR_mono (fun a v => z_g_mono (z_le_push cw x)) ht hw), he, fun k a h => z_le_push cw x k a (hle k a h)⟩
theorem z_new_ref {cls : List vw_C} {g : zAV → Value → Prop} {tys : List (ClassId × FieldType)} {w : List zAE} {cw : va_W} {x : Nat × va_E} (hw : z_WR cls g tys w cw) : ((cw ++ [x]).map Prod.fst)[w.length]? = some x.1 := by
  rw [z_WR_len hw, List.map_append, List.getElem?_append_right (by simp)]
  simp
theorem z_Fr_push {sg : Nat → Int32} {b : Nat} {cw : va_W} {nL : Nat} {ls : Array Slot} {lv : List (Nat × Value)} {lo : List (Nat × zAV)} {st : List zAV} {cst : List Value} {x : Nat × va_E} {a : zAV} {v : Value} (hlv : lv_has ls nL lv) (hLR : z_LR (z_g sg (cw.map Prod.fst) b) lo lv) (hSR : z_SR (z_g sg (cw.map Prod.fst) b) st cst) (hg : z_g sg ((cw ++ [x]).map Prod.fst) b a v) : z_Fr sg b (cw ++ [x]) nL ls lo (a :: st) (v :: cst) :=
  ⟨⟨lv, hlv, z_LR_mono (fun a v => z_g_mono (z_le_push cw x)) hLR⟩, hg, z_SR_mono (fun a v => z_g_mono (z_le_push cw x)) hSR⟩
/-- behind a changed cell -/
theorem z_St_set {cls : List vw_C} {D : va_G} {sg : Nat → Int32} {b : Nat} {s : State} {A : Nat → Prop} {ad0 : List Nat} {H1 : Heap} {locs : List Loc} {w : List zAE} {env : zEnv} {cw : va_W} {tys : List (ClassId × FieldType)} {a adr : Nat} {x x' : va_E} {en : zAE} (hx0 : cw[a]? = some (adr, x)) (hK : va_K D cls tys s) (hP : va_P D cls (cw.set a (adr, x')) H1) (hD : va_D A (cw.set a (adr, x'))) (hS : va_S A s.heap H1 locs) (hw : z_WR cls (z_g sg (cw.map Prod.fst) b) tys w cw) (hx : z_ER cls (z_g sg (cw.map Prod.fst) b) tys en x') (he : z_erel sg env) (hle : z_le ad0 (cw.map Prod.fst)) : z_St cls D sg b s A ad0 H1 locs (w.set a en) env (cw.set a (adr, x')) tys := by
  refine ⟨hK, hP, hD, hS, ?_, he, ?_⟩
  · rw [z_fst_set hx0]; exact z_WR_set hx a hw
  · rw [z_fst_set hx0]; exact hle
theorem z_Fr_set {sg : Nat → Int32} {b : Nat} {cw : va_W} {nL : Nat} {ls : Array Slot} {lo : List (Nat × zAV)} {st : List zAV} {cst : List Value} {a adr : Nat} {x x' : va_E} (hx0 : cw[a]? = some (adr, x)) (h : z_Fr sg b cw nL ls lo st cst) : z_Fr sg b (cw.set a (adr, x')) nL ls lo st cst := by
  unfold z_Fr
  rw [z_fst_set hx0]
  exact h
theorem z_tys_app {tys : List (ClassId × FieldType)} {x : ClassId × FieldType} (t0 : Nat) (q : ClassId × FieldType) (h : tys[t0]? = some q) : (tys ++ [x])[t0]? = some q := by
  rw [List.getElem?_append_left (List.getElem?_eq_some_iff.mp h).1]
  exact h
theorem z_tys_new {tys : List (ClassId × FieldType)} {x : ClassId × FieldType} : (tys ++ [x])[tys.length]? = some x := by simp

set_option maxHeartbeats 40000000 in
set_option maxRecDepth 100000 in
theorem z_step_ok {tb : zTB} {nw : List Jvm.Cond} {cls : List vw_C} {zty : List (Nat → FieldType)} {zdv : List (List zAV)} {ms : List zMR} {l : Launch} {D : va_G} {sg : Nat → Int32} {b n : Nat} (hA : z_All tb nw cls zty zdv ms) (hS : z_Snd tb nw cls zty zdv ms l D sg b n) : z_Snd tb nw cls zty zdv ms l D sg b (n + 1) := by
  intro p e R s m args below meth c A ad0 lx mr Q hF k hend hstop H locs cw tys ls cst cd pc lo st ce sl env w hcd hSt hFr hce hsl hev
  have go : ∀ {H : Heap} {locs : List Loc} {cw : va_W} {tys : List (ClassId × FieldType)} {ls : Array Slot} {cst : List Value} {cd : List zEnt} {pc : Nat} {lo : List (Nat × zAV)} {st : List zAV} {ce sl : Nat} {env : zEnv} {w : List zAE}, z_ev cls zty zdv ms n lx mr cd pc lo st ce sl env w k = true → (∀ x ∈ cd, x ∈ z_cd mr) → z_St cls D sg b s A ad0 H locs w env cw tys → z_Fr sg b cw (z_mL mr) ls lo st cst → ce ≤ (z_rm mr).cells → sl ≤ (z_rm mr).slots → W p l e R s m args below meth c H locs ce sl Q (F0 m pc ls cst) := fun h1 h2 h3 h4 h5 h6 => hS p e R s m args below meth c A ad0 lx mr Q hF k hend hstop _ _ _ _ _ _ _ _ _ _ _ _ _ _ h2 h3 h4 h5 h6 h1
  cases cd with
  | nil => exact hstop H locs cw tys ls cst pc lo st ce sl env w hSt hFr hce hsl hev
  | cons x r =>
    obtain ⟨q, i, x1, x2, x3⟩ := x
    have hev : cond (Nat.beq q pc) (z_ins i cls zty zdv ms (z_ev cls zty zdv ms n) (fun env' => z_ev cls zty zdv ms n lx mr ((q, i, x1, x2, x3) :: r) pc lo st ce sl env' w k) lx mr q x1 x2 x3 r lo st ce sl env w k) false = true := hev
    obtain ⟨hq, hev⟩ := z_cond hev
    have hq := Nat.eq_of_beq_eq_true hq
    subst hq
    have hr : ∀ x ∈ r, x ∈ z_cd mr := fun x h => hcd x (List.mem_cons_of_mem _ h)
    have hj : ∀ t, ∀ x ∈ z_from (z_cd mr) t, x ∈ z_cd mr := fun t => z_from_sub _ t
    obtain ⟨hx, hb, hml, hown, hts, hin, hR, hN, hA0, hcode, hscr⟩ := id hF
    have hok := hcode _ (hcd _ List.mem_cons_self)
    obtain ⟨hdec, hokI⟩ := z_and hok
    obtain ⟨len, hdg, hlen⟩ := z_dec_ok hdec
    obtain ⟨hK, hP, hD, hS0, hw, he, hle⟩ := id hSt
    obtain ⟨⟨lv, hlv, hLR⟩, hSR⟩ := id hFr
    dsimp only at hdg hlen hokI
    have re : (∃ e', z_erel sg e' ∧ z_ev cls zty zdv ms n lx mr ((q, i, x1, x2, x3) :: r) q lo st ce sl e' w k = true) → W p l e R s m args below meth c H locs ce sl Q (F0 m q ls cst) := fun ⟨e', h1, h2⟩ => go h2 hcd ⟨hK, hP, hD, hS0, hw, h1, hle⟩ hFr hce hsl
    cases i with
    | iconst v =>
      have hev : z_h_iconst v cls zty zdv ms (z_ev cls zty zdv ms n) (fun env' => z_ev cls zty zdv ms n lx mr ((q, .iconst v, x1, x2, x3) :: r) q lo st ce sl env' w k) lx mr q x1 x2 x3 r lo st ce sl env w k = true := hev
      unfold z_h_iconst at hev
      have hdg := z_dl hdg hlen rfl
      have hev_1 := (z_frc_eq _ _).symm.trans hev
      refine lv_iconst hx hb hdg rfl (go hev_1 hr hSt ?_ hce hsl)
      exact ⟨⟨lv, hlv, hLR⟩, z_gun _, hSR⟩
    | bipush v =>
      have hev : z_h_bipush v cls zty zdv ms (z_ev cls zty zdv ms n) (fun env' => z_ev cls zty zdv ms n lx mr ((q, .bipush v, x1, x2, x3) :: r) q lo st ce sl env' w k) lx mr q x1 x2 x3 r lo st ce sl env w k = true := hev
      unfold z_h_bipush at hev
      have hdg := z_dl hdg hlen rfl
      have hev_2 := (z_frc_eq _ _).symm.trans hev
      refine lv_bipush hx hb hdg rfl (go hev_2 hr hSt ?_ hce hsl)
      exact ⟨⟨lv, hlv, hLR⟩, z_gun _, hSR⟩
    | sipush v =>
      have hev : z_h_sipush v cls zty zdv ms (z_ev cls zty zdv ms n) (fun env' => z_ev cls zty zdv ms n lx mr ((q, .sipush v, x1, x2, x3) :: r) q lo st ce sl env' w k) lx mr q x1 x2 x3 r lo st ce sl env w k = true := hev
      unfold z_h_sipush at hev
      have hdg := z_dl hdg hlen rfl
      have hev_3 := (z_frc_eq _ _).symm.trans hev
      refine lv_sipush hx hb hdg rfl (go hev_3 hr hSt ?_ hce hsl)
      exact ⟨⟨lv, hlv, hLR⟩, z_gun _, hSR⟩
    | ldc v =>
      have hev : z_h_ldc v cls zty zdv ms (z_ev cls zty zdv ms n) (fun env' => z_ev cls zty zdv ms n lx mr ((q, .ldc v, x1, x2, x3) :: r) q lo st ce sl env' w k) lx mr q x1 x2 x3 r lo st ce sl env w k = true := hev
      unfold z_h_ldc at hev
      have hdg := z_dl hdg hlen rfl
      have hev_4 := (z_frc_eq _ _).symm.trans hev
      refine lv_ldc hx hb hown (hts _ (z_w_ok hokI)) hdg (go hev_4 hr hSt ?_ hce hsl)
      exact ⟨⟨lv, hlv, hLR⟩, rfl, hSR⟩
    | lconst v =>
      have hev : z_h_lconst v cls zty zdv ms (z_ev cls zty zdv ms n) (fun env' => z_ev cls zty zdv ms n lx mr ((q, .lconst v, x1, x2, x3) :: r) q lo st ce sl env' w k) lx mr q x1 x2 x3 r lo st ce sl env w k = true := hev
      unfold z_h_lconst at hev
      have hdg := z_dl hdg hlen rfl
      refine lv_lconst hx hb hdg rfl (go hev hr hSt ?_ hce hsl)
      exact ⟨⟨lv, hlv, hLR⟩, ⟨_, rfl⟩, hSR⟩
    | aconst_null =>
      have hev : z_h_aconst_null cls zty zdv ms (z_ev cls zty zdv ms n) (fun env' => z_ev cls zty zdv ms n lx mr ((q, .aconst_null, x1, x2, x3) :: r) q lo st ce sl env' w k) lx mr q x1 x2 x3 r lo st ce sl env w k = true := hev
      unfold z_h_aconst_null at hev
      have hdg := z_dl hdg hlen rfl
      refine lv_null hx hb hdg (go hev hr hSt ?_ hce hsl)
      exact ⟨⟨lv, hlv, hLR⟩, rfl, hSR⟩
    | iload_n j =>
      have hev : z_h_iload_n j cls zty zdv ms (z_ev cls zty zdv ms n) (fun env' => z_ev cls zty zdv ms n lx mr ((q, .iload_n j, x1, x2, x3) :: r) q lo st ce sl env' w k) lx mr q x1 x2 x3 r lo st ce sl env w k = true := hev
      unfold z_h_iload_n at hev
      have hdg := z_dl hdg hlen rfl
      obtain ⟨a, h1, h2, hev_5⟩ := z_ld_ok hev
      obtain ⟨kk, v, g1, g2, g3⟩ := z_LR_lk hLR h1
      obtain ⟨x, rfl⟩ := z_isI_ok h2 g2
      refine lv_iload_n hx hb hdg rfl (lv_at hlv kk g1) (go hev_5 hr hSt ?_ hce hsl)
      exact ⟨⟨lv, hlv, hLR⟩, g2, hSR⟩
    | iload j =>
      have hev : z_h_iload j cls zty zdv ms (z_ev cls zty zdv ms n) (fun env' => z_ev cls zty zdv ms n lx mr ((q, .iload j, x1, x2, x3) :: r) q lo st ce sl env' w k) lx mr q x1 x2 x3 r lo st ce sl env w k = true := hev
      unfold z_h_iload at hev
      have hdg := z_dl hdg hlen rfl
      obtain ⟨a, h1, h2, hev_6⟩ := z_ld_ok hev
      obtain ⟨kk, v, g1, g2, g3⟩ := z_LR_lk hLR h1
      obtain ⟨x, rfl⟩ := z_isI_ok h2 g2
      refine lv_iload hx hb hdg (lv_at hlv kk g1) (go hev_6 hr hSt ?_ hce hsl)
      exact ⟨⟨lv, hlv, hLR⟩, g2, hSR⟩
    | aload_n j =>
      have hev : z_h_aload_n j cls zty zdv ms (z_ev cls zty zdv ms n) (fun env' => z_ev cls zty zdv ms n lx mr ((q, .aload_n j, x1, x2, x3) :: r) q lo st ce sl env' w k) lx mr q x1 x2 x3 r lo st ce sl env w k = true := hev
      unfold z_h_aload_n at hev
      have hdg := z_dl hdg hlen rfl
      obtain ⟨a, h1, h2, hev_7⟩ := z_ld_ok hev
      obtain ⟨kk, v, g1, g2, g3⟩ := z_LR_lk hLR h1
      rcases z_isR_ok h2 g2 with rfl | ⟨x, rfl⟩
      · refine lv_aload_nN hx hb hdg rfl (lv_at hlv kk g1) (go hev_7 hr hSt ?_ hce hsl)
        exact ⟨⟨lv, hlv, hLR⟩, g2, hSR⟩
      · refine lv_aload_n hx hb hdg rfl (lv_at hlv kk g1) (go hev_7 hr hSt ?_ hce hsl)
        exact ⟨⟨lv, hlv, hLR⟩, g2, hSR⟩
    | aload j =>
      have hev : z_h_aload j cls zty zdv ms (z_ev cls zty zdv ms n) (fun env' => z_ev cls zty zdv ms n lx mr ((q, .aload j, x1, x2, x3) :: r) q lo st ce sl env' w k) lx mr q x1 x2 x3 r lo st ce sl env w k = true := hev
      unfold z_h_aload at hev
      have hdg := z_dl hdg hlen rfl
      obtain ⟨a, h1, h2, hev_8⟩ := z_ld_ok hev
      obtain ⟨kk, v, g1, g2, g3⟩ := z_LR_lk hLR h1
      rcases z_isR_ok h2 g2 with rfl | ⟨x, rfl⟩
      · refine lv_aloadN hx hb hdg (lv_at hlv kk g1) (go hev_8 hr hSt ?_ hce hsl)
        exact ⟨⟨lv, hlv, hLR⟩, g2, hSR⟩
      · refine lv_aload hx hb hdg (lv_at hlv kk g1) (go hev_8 hr hSt ?_ hce hsl)
        exact ⟨⟨lv, hlv, hLR⟩, g2, hSR⟩
    | istore_n j =>
      have hev : z_h_istore_n j cls zty zdv ms (z_ev cls zty zdv ms n) (fun env' => z_ev cls zty zdv ms n lx mr ((q, .istore_n j, x1, x2, x3) :: r) q lo st ce sl env' w k) lx mr q x1 x2 x3 r lo st ce sl env w k = true := hev
      unfold z_h_istore_n at hev
      have hdg := z_dl hdg hlen rfl
      obtain ⟨a, t, rfl, h2, h3, hev_9⟩ := z_sto_ok hev
      obtain ⟨v, ct, rfl, g1, hSR_10⟩ := z_SR_cons hSR
      obtain ⟨x, rfl⟩ := z_isI_ok h2 g1
      refine lv_istore_n hx hb hdg rfl hlv h3 rfl (fun ls' hl' => go hev_9 hr hSt ?_ hce hsl)
      exact ⟨⟨_, hl', ⟨rfl, g1, rfl⟩, z_LR_del _ hLR⟩, hSR_10⟩
    | istore j =>
      have hev : z_h_istore j cls zty zdv ms (z_ev cls zty zdv ms n) (fun env' => z_ev cls zty zdv ms n lx mr ((q, .istore j, x1, x2, x3) :: r) q lo st ce sl env' w k) lx mr q x1 x2 x3 r lo st ce sl env w k = true := hev
      unfold z_h_istore at hev
      have hdg := z_dl hdg hlen rfl
      obtain ⟨a, t, rfl, h2, h3, hev_11⟩ := z_sto_ok hev
      obtain ⟨v, ct, rfl, g1, hSR_12⟩ := z_SR_cons hSR
      obtain ⟨x, rfl⟩ := z_isI_ok h2 g1
      refine lv_istore hx hb hdg hlv h3 rfl (fun ls' hl' => go hev_11 hr hSt ?_ hce hsl)
      exact ⟨⟨_, hl', ⟨rfl, g1, rfl⟩, z_LR_del _ hLR⟩, hSR_12⟩
    | astore_n j =>
      have hev : z_h_astore_n j cls zty zdv ms (z_ev cls zty zdv ms n) (fun env' => z_ev cls zty zdv ms n lx mr ((q, .astore_n j, x1, x2, x3) :: r) q lo st ce sl env' w k) lx mr q x1 x2 x3 r lo st ce sl env w k = true := hev
      unfold z_h_astore_n at hev
      have hdg := z_dl hdg hlen rfl
      obtain ⟨a, t, rfl, h2, h3, hev_13⟩ := z_sto_ok hev
      obtain ⟨v, ct, rfl, g1, hSR_14⟩ := z_SR_cons hSR
      rcases z_isO_ok h2 g1 with rfl | ⟨x, rfl⟩
      · refine lv_astore_nN hx hb hdg rfl hlv h3 rfl (fun ls' hl' => go hev_13 hr hSt ?_ hce hsl)
        exact ⟨⟨_, hl', ⟨rfl, g1, rfl⟩, z_LR_del _ hLR⟩, hSR_14⟩
      · refine lv_astore_n hx hb hdg rfl hlv h3 rfl (fun ls' hl' => go hev_13 hr hSt ?_ hce hsl)
        exact ⟨⟨_, hl', ⟨rfl, g1, rfl⟩, z_LR_del _ hLR⟩, hSR_14⟩
    | astore j =>
      have hev : z_h_astore j cls zty zdv ms (z_ev cls zty zdv ms n) (fun env' => z_ev cls zty zdv ms n lx mr ((q, .astore j, x1, x2, x3) :: r) q lo st ce sl env' w k) lx mr q x1 x2 x3 r lo st ce sl env w k = true := hev
      unfold z_h_astore at hev
      have hdg := z_dl hdg hlen rfl
      obtain ⟨a, t, rfl, h2, h3, hev_15⟩ := z_sto_ok hev
      obtain ⟨v, ct, rfl, g1, hSR_16⟩ := z_SR_cons hSR
      rcases z_isO_ok h2 g1 with rfl | ⟨x, rfl⟩
      · refine lv_astoreN hx hb hdg hlv h3 rfl (fun ls' hl' => go hev_15 hr hSt ?_ hce hsl)
        exact ⟨⟨_, hl', ⟨rfl, g1, rfl⟩, z_LR_del _ hLR⟩, hSR_16⟩
      · refine lv_astore hx hb hdg hlv h3 rfl (fun ls' hl' => go hev_15 hr hSt ?_ hce hsl)
        exact ⟨⟨_, hl', ⟨rfl, g1, rfl⟩, z_LR_del _ hLR⟩, hSR_16⟩
    | iinc j v =>
      have hev : z_h_iinc j v cls zty zdv ms (z_ev cls zty zdv ms n) (fun env' => z_ev cls zty zdv ms n lx mr ((q, .iinc j v, x1, x2, x3) :: r) q lo st ce sl env' w k) lx mr q x1 x2 x3 r lo st ce sl env w k = true := hev
      unfold z_h_iinc at hev
      have hdg := z_dl hdg hlen rfl
      obtain ⟨a, h1, h2, hev_17⟩ := z_ld_ok hev
      obtain ⟨kk, v1, g1, g2, g3⟩ := z_LR_lk hLR h1
      obtain ⟨x, y, c0, rfl, e2, g4, hev_18⟩ := z_bin_ok hev_17 he g2 (z_gun (Int32.ofInt v))
      cases e2
      obtain ⟨h3, hev_19⟩ := z_cond hev_18
      have hev_20 := (z_del_eq _ _ _).symm.trans hev_19
      refine lv_iinc hx hb hdg hlv g1 rfl (z_lt_of h3) rfl (fun ls' hl' => go hev_20 hr hSt ?_ hce hsl)
      exact ⟨⟨_, hl', ⟨rfl, g4, rfl⟩, z_LR_del _ hLR⟩, hSR⟩
    | iadd =>
      have hev : z_h_iadd cls zty zdv ms (z_ev cls zty zdv ms n) (fun env' => z_ev cls zty zdv ms n lx mr ((q, .iadd, x1, x2, x3) :: r) q lo st ce sl env' w k) lx mr q x1 x2 x3 r lo st ce sl env w k = true := hev
      unfold z_h_iadd at hev
      have hdg := z_dl hdg hlen rfl
      obtain ⟨a, b1, t, rfl, hev_21⟩ := z_b2_ok hev
      obtain ⟨v2, c1, rfl, g2, hSR_22⟩ := z_SR_cons hSR
      obtain ⟨v1, c2, rfl, g1, hSR_23⟩ := z_SR_cons hSR_22
      obtain ⟨x, y, c0, rfl, rfl, g3, hev_24⟩ := z_bin_ok hev_21 he g1 g2
      refine lv_iadd hx hb hdg (go hev_24 hr hSt ?_ hce hsl)
      exact ⟨⟨lv, hlv, hLR⟩, g3, hSR_23⟩
    | isub =>
      have hev : z_h_isub cls zty zdv ms (z_ev cls zty zdv ms n) (fun env' => z_ev cls zty zdv ms n lx mr ((q, .isub, x1, x2, x3) :: r) q lo st ce sl env' w k) lx mr q x1 x2 x3 r lo st ce sl env w k = true := hev
      unfold z_h_isub at hev
      have hdg := z_dl hdg hlen rfl
      obtain ⟨a, b1, t, rfl, hev_25⟩ := z_b2_ok hev
      obtain ⟨v2, c1, rfl, g2, hSR_26⟩ := z_SR_cons hSR
      obtain ⟨v1, c2, rfl, g1, hSR_27⟩ := z_SR_cons hSR_26
      obtain ⟨x, y, c0, rfl, rfl, g3, hev_28⟩ := z_bin_ok hev_25 he g1 g2
      refine lv_isub hx hb hdg (go hev_28 hr hSt ?_ hce hsl)
      exact ⟨⟨lv, hlv, hLR⟩, g3, hSR_27⟩
    | imul =>
      have hev : z_h_imul cls zty zdv ms (z_ev cls zty zdv ms n) (fun env' => z_ev cls zty zdv ms n lx mr ((q, .imul, x1, x2, x3) :: r) q lo st ce sl env' w k) lx mr q x1 x2 x3 r lo st ce sl env w k = true := hev
      unfold z_h_imul at hev
      have hdg := z_dl hdg hlen rfl
      obtain ⟨a, b1, t, rfl, hev_29⟩ := z_b2_ok hev
      obtain ⟨v2, c1, rfl, g2, hSR_30⟩ := z_SR_cons hSR
      obtain ⟨v1, c2, rfl, g1, hSR_31⟩ := z_SR_cons hSR_30
      obtain ⟨x, y, c0, rfl, rfl, g3, hev_32⟩ := z_bin_ok hev_29 he g1 g2
      refine lv_imul hx hb hdg (go hev_32 hr hSt ?_ hce hsl)
      exact ⟨⟨lv, hlv, hLR⟩, g3, hSR_31⟩
    | iand =>
      have hev : z_h_iand cls zty zdv ms (z_ev cls zty zdv ms n) (fun env' => z_ev cls zty zdv ms n lx mr ((q, .iand, x1, x2, x3) :: r) q lo st ce sl env' w k) lx mr q x1 x2 x3 r lo st ce sl env w k = true := hev
      unfold z_h_iand at hev
      have hdg := z_dl hdg hlen rfl
      obtain ⟨a, b1, t, rfl, hev_33⟩ := z_b2_ok hev
      obtain ⟨v2, c1, rfl, g2, hSR_34⟩ := z_SR_cons hSR
      obtain ⟨v1, c2, rfl, g1, hSR_35⟩ := z_SR_cons hSR_34
      obtain ⟨x, y, c0, rfl, rfl, g3, hev_36⟩ := z_bin_ok hev_33 he g1 g2
      refine lv_iand hx hb hdg (go hev_36 hr hSt ?_ hce hsl)
      exact ⟨⟨lv, hlv, hLR⟩, g3, hSR_35⟩
    | ior =>
      have hev : z_h_ior cls zty zdv ms (z_ev cls zty zdv ms n) (fun env' => z_ev cls zty zdv ms n lx mr ((q, .ior, x1, x2, x3) :: r) q lo st ce sl env' w k) lx mr q x1 x2 x3 r lo st ce sl env w k = true := hev
      unfold z_h_ior at hev
      have hdg := z_dl hdg hlen rfl
      obtain ⟨a, b1, t, rfl, hev_37⟩ := z_b2_ok hev
      obtain ⟨v2, c1, rfl, g2, hSR_38⟩ := z_SR_cons hSR
      obtain ⟨v1, c2, rfl, g1, hSR_39⟩ := z_SR_cons hSR_38
      obtain ⟨x, y, c0, rfl, rfl, g3, hev_40⟩ := z_bin_ok hev_37 he g1 g2
      refine lv_ior hx hb hdg (go hev_40 hr hSt ?_ hce hsl)
      exact ⟨⟨lv, hlv, hLR⟩, g3, hSR_39⟩
    | ishl =>
      have hev : z_h_ishl cls zty zdv ms (z_ev cls zty zdv ms n) (fun env' => z_ev cls zty zdv ms n lx mr ((q, .ishl, x1, x2, x3) :: r) q lo st ce sl env' w k) lx mr q x1 x2 x3 r lo st ce sl env w k = true := hev
      unfold z_h_ishl at hev
      have hdg := z_dl hdg hlen rfl
      obtain ⟨a, b1, t, rfl, hev_41⟩ := z_b2_ok hev
      obtain ⟨v2, c1, rfl, g2, hSR_42⟩ := z_SR_cons hSR
      obtain ⟨v1, c2, rfl, g1, hSR_43⟩ := z_SR_cons hSR_42
      obtain ⟨x, y, c0, rfl, rfl, g3, hev_44⟩ := z_bin_ok hev_41 he g1 g2
      refine lv_ishl hx hb hdg (go hev_44 hr hSt ?_ hce hsl)
      exact ⟨⟨lv, hlv, hLR⟩, g3, hSR_43⟩
    | ishr =>
      have hev : z_h_ishr cls zty zdv ms (z_ev cls zty zdv ms n) (fun env' => z_ev cls zty zdv ms n lx mr ((q, .ishr, x1, x2, x3) :: r) q lo st ce sl env' w k) lx mr q x1 x2 x3 r lo st ce sl env w k = true := hev
      unfold z_h_ishr at hev
      have hdg := z_dl hdg hlen rfl
      obtain ⟨a, b1, t, rfl, hev_45⟩ := z_b2_ok hev
      obtain ⟨v2, c1, rfl, g2, hSR_46⟩ := z_SR_cons hSR
      obtain ⟨v1, c2, rfl, g1, hSR_47⟩ := z_SR_cons hSR_46
      obtain ⟨x, y, c0, rfl, rfl, g3, hev_48⟩ := z_bin_ok hev_45 he g1 g2
      refine lv_ishr hx hb hdg (go hev_48 hr hSt ?_ hce hsl)
      exact ⟨⟨lv, hlv, hLR⟩, g3, hSR_47⟩
    | iushr =>
      have hev : z_h_iushr cls zty zdv ms (z_ev cls zty zdv ms n) (fun env' => z_ev cls zty zdv ms n lx mr ((q, .iushr, x1, x2, x3) :: r) q lo st ce sl env' w k) lx mr q x1 x2 x3 r lo st ce sl env w k = true := hev
      unfold z_h_iushr at hev
      have hdg := z_dl hdg hlen rfl
      obtain ⟨a, b1, t, rfl, hev_49⟩ := z_b2_ok hev
      obtain ⟨v2, c1, rfl, g2, hSR_50⟩ := z_SR_cons hSR
      obtain ⟨v1, c2, rfl, g1, hSR_51⟩ := z_SR_cons hSR_50
      obtain ⟨x, y, c0, rfl, rfl, g3, hev_52⟩ := z_bin_ok hev_49 he g1 g2
      refine lv_iushr hx hb hdg rfl (go hev_52 hr hSt ?_ hce hsl)
      exact ⟨⟨lv, hlv, hLR⟩, g3, hSR_51⟩
    | irem =>
      have hev : z_h_irem cls zty zdv ms (z_ev cls zty zdv ms n) (fun env' => z_ev cls zty zdv ms n lx mr ((q, .irem, x1, x2, x3) :: r) q lo st ce sl env' w k) lx mr q x1 x2 x3 r lo st ce sl env w k = true := hev
      unfold z_h_irem at hev
      have hdg := z_dl hdg hlen rfl
      obtain ⟨a, b1, t, rfl, hev_53⟩ := z_b2_ok hev
      obtain ⟨v2, c1, rfl, g2, hSR_54⟩ := z_SR_cons hSR
      obtain ⟨v1, c2, rfl, g1, hSR_55⟩ := z_SR_cons hSR_54
      have g2 := z_rs_ok he g2
      rcases z_ks_ok hev_53 with ⟨y, e1, hev_56⟩ | ⟨_, _, hev_56⟩
      · rw [e1] at g2
        have g2 : v2 = .int (nI y) := g2
        subst g2
        cases hc : Nat.beq (z_bu y) 2147483648 with
        | true => rw [hc] at hev_56; cases hev_56
        | false =>
          rw [hc, cond_false] at hev_56
          obtain ⟨x, y2, c0, rfl, e2, g3, hev_57⟩ := z_bin_ok hev_56 he g1 (show z_g sg (cw.map Prod.fst) b (.inl y) (.int (nI y)) from rfl)
          cases e2
          have hne : ¬ nI y = 0 := by
            intro h0
            have h1 := (z_beq (nI y) 0).mp h0
            rw [z_b_nI] at h1
            rw [h1] at hc
            exact absurd hc (by decide)
          refine lv_irem hx hb hdg hne (go hev_57 hr hSt ?_ hce hsl)
          exact ⟨⟨lv, hlv, hLR⟩, g3, hSR_55⟩
      · cases hev_56
    | i2b =>
      have hev : z_h_i2b cls zty zdv ms (z_ev cls zty zdv ms n) (fun env' => z_ev cls zty zdv ms n lx mr ((q, .i2b, x1, x2, x3) :: r) q lo st ce sl env' w k) lx mr q x1 x2 x3 r lo st ce sl env w k = true := hev
      unfold z_h_i2b at hev
      have hdg := z_dl hdg hlen rfl
      obtain ⟨a, t, rfl, hev_58⟩ := z_p1_ok hev
      obtain ⟨v1, c2, rfl, g1, hSR_59⟩ := z_SR_cons hSR
      obtain ⟨x, y2, c0, rfl, e2, g3, hev_60⟩ := z_bin_ok hev_58 he g1 (show z_g sg (cw.map Prod.fst) b (.inl 0) (.int (nI 0)) from rfl)
      refine lv_i2b hx hb hdg rfl (go hev_60 hr hSt ?_ hce hsl)
      exact ⟨⟨lv, hlv, hLR⟩, g3, hSR_59⟩
    | ifCond cd o =>
      have hev : z_h_ifCond cd o cls zty zdv ms (z_ev cls zty zdv ms n) (fun env' => z_ev cls zty zdv ms n lx mr ((q, .ifCond cd o, x1, x2, x3) :: r) q lo st ce sl env' w k) lx mr q x1 x2 x3 r lo st ce sl env w k = true := hev
      unfold z_h_ifCond at hev
      have hdg := z_dl hdg hlen rfl
      obtain ⟨a, t, rfl, hev_61⟩ := z_p1_ok hev
      obtain ⟨v1, c2, rfl, g1, hSR_62⟩ := z_SR_cons hSR
      have g1 := z_rs_ok he g1
      obtain ⟨x, rfl⟩ := z_isI_ok (z_br_int hev_61).1 g1
      have ht := of_decide_eq_true hokI
      rcases z_br_ok hev_61 he g1 (show z_g sg (cw.map Prod.fst) b (.inl 0) (.int 0) from rfl) with ⟨k1, k2⟩ | h
      · refine z_if0 hx hb hdg ht (fun h => ?_) (fun h => ?_)
        · obtain ⟨e1, he1, hev_63⟩ := k1 h
          exact go hev_63 (hj _) ⟨hK, hP, hD, hS0, hw, he1, hle⟩ ⟨⟨lv, hlv, hLR⟩, hSR_62⟩ hce hsl
        · obtain ⟨e1, he1, hev_64⟩ := k2 h
          exact go hev_64 hr ⟨hK, hP, hD, hS0, hw, he1, hle⟩ ⟨⟨lv, hlv, hLR⟩, hSR_62⟩ hce hsl
      · exact re h
    | if_icmp cd o =>
      have hev : z_h_if_icmp cd o cls zty zdv ms (z_ev cls zty zdv ms n) (fun env' => z_ev cls zty zdv ms n lx mr ((q, .if_icmp cd o, x1, x2, x3) :: r) q lo st ce sl env' w k) lx mr q x1 x2 x3 r lo st ce sl env w k = true := hev
      unfold z_h_if_icmp at hev
      have hdg := z_dl hdg hlen rfl
      obtain ⟨a, b1, t, rfl, hev_65⟩ := z_b2_ok hev
      obtain ⟨v2, c1, rfl, g2, hSR_66⟩ := z_SR_cons hSR
      obtain ⟨v1, c2, rfl, g1, hSR_67⟩ := z_SR_cons hSR_66
      have g1 := z_rs_ok he g1
      have g2 := z_rs_ok he g2
      obtain ⟨x, rfl⟩ := z_isI_ok (z_br_int hev_65).1 g1
      obtain ⟨y, rfl⟩ := z_isI_ok (z_br_int hev_65).2 g2
      have ht := of_decide_eq_true hokI
      rcases z_br_ok hev_65 he g1 g2 with ⟨k1, k2⟩ | h
      · refine z_icmp hx hb hdg ht (fun h => ?_) (fun h => ?_)
        · obtain ⟨e1, he1, hev_68⟩ := k1 h
          exact go hev_68 (hj _) ⟨hK, hP, hD, hS0, hw, he1, hle⟩ ⟨⟨lv, hlv, hLR⟩, hSR_67⟩ hce hsl
        · obtain ⟨e1, he1, hev_69⟩ := k2 h
          exact go hev_69 hr ⟨hK, hP, hD, hS0, hw, he1, hle⟩ ⟨⟨lv, hlv, hLR⟩, hSR_67⟩ hce hsl
      · exact re h
    | ifnull o =>
      have hev : z_h_ifnull o cls zty zdv ms (z_ev cls zty zdv ms n) (fun env' => z_ev cls zty zdv ms n lx mr ((q, .ifnull o, x1, x2, x3) :: r) q lo st ce sl env' w k) lx mr q x1 x2 x3 r lo st ce sl env w k = true := hev
      unfold z_h_ifnull at hev
      have hdg := z_dl hdg hlen rfl
      obtain ⟨a, t, rfl, hev_70⟩ := z_p1_ok hev
      obtain ⟨v1, c2, rfl, g1, hSR_71⟩ := z_SR_cons hSR
      have ht := of_decide_eq_true hokI
      rcases z_nul_ok hev_70 with ⟨rfl, hev_72⟩ | ⟨a1, rfl, hev_72⟩
      · have g1 : v1 = .null := g1
        subst g1
        exact lv_ifnullN hx hb hdg ht (go hev_72 (hj _) hSt ⟨⟨lv, hlv, hLR⟩, hSR_71⟩ hce hsl)
      · obtain ⟨adr, _, rfl⟩ := g1
        exact lv_ifnull hx hb hdg (go hev_72 hr hSt ⟨⟨lv, hlv, hLR⟩, hSR_71⟩ hce hsl)
    | ifnonnull o =>
      have hev : z_h_ifnonnull o cls zty zdv ms (z_ev cls zty zdv ms n) (fun env' => z_ev cls zty zdv ms n lx mr ((q, .ifnonnull o, x1, x2, x3) :: r) q lo st ce sl env' w k) lx mr q x1 x2 x3 r lo st ce sl env w k = true := hev
      unfold z_h_ifnonnull at hev
      have hdg := z_dl hdg hlen rfl
      obtain ⟨a, t, rfl, hev_73⟩ := z_p1_ok hev
      obtain ⟨v1, c2, rfl, g1, hSR_74⟩ := z_SR_cons hSR
      have ht := of_decide_eq_true hokI
      rcases z_nul_ok hev_73 with ⟨rfl, hev_75⟩ | ⟨a1, rfl, hev_75⟩
      · have g1 : v1 = .null := g1
        subst g1
        exact lv_ifnonnullN hx hb hdg (go hev_75 hr hSt ⟨⟨lv, hlv, hLR⟩, hSR_74⟩ hce hsl)
      · obtain ⟨adr, _, rfl⟩ := g1
        exact lv_ifnonnull hx hb hdg ht (go hev_75 (hj _) hSt ⟨⟨lv, hlv, hLR⟩, hSR_74⟩ hce hsl)
    | goto o =>
      have hev : z_h_goto o cls zty zdv ms (z_ev cls zty zdv ms n) (fun env' => z_ev cls zty zdv ms n lx mr ((q, .goto o, x1, x2, x3) :: r) q lo st ce sl env' w k) lx mr q x1 x2 x3 r lo st ce sl env w k = true := hev
      unfold z_h_goto at hev
      have hdg := z_dl hdg hlen rfl
      have ht := of_decide_eq_true hokI
      exact lv_goto hx hb hdg ht (go hev (hj _) hSt hFr hce hsl)
    | dup =>
      have hev : z_h_dup cls zty zdv ms (z_ev cls zty zdv ms n) (fun env' => z_ev cls zty zdv ms n lx mr ((q, .dup, x1, x2, x3) :: r) q lo st ce sl env' w k) lx mr q x1 x2 x3 r lo st ce sl env w k = true := hev
      unfold z_h_dup at hev
      have hdg := z_dl hdg hlen rfl
      obtain ⟨a, t, rfl, hev_76⟩ := z_p1_ok hev
      obtain ⟨h1, hev_77⟩ := z_cond hev_76
      obtain ⟨v1, c2, rfl, g1, hSR_78⟩ := z_SR_cons hSR
      refine lv_dup hx hb hdg (z_c1_ok h1 g1) (go hev_77 hr hSt ?_ hce hsl)
      exact ⟨⟨lv, hlv, hLR⟩, g1, g1, hSR_78⟩
    | tableswitch d l0 h0 offs =>
      have hev : z_h_tableswitch d l0 h0 offs cls zty zdv ms (z_ev cls zty zdv ms n) (fun env' => z_ev cls zty zdv ms n lx mr ((q, .tableswitch d l0 h0 offs, x1, x2, x3) :: r) q lo st ce sl env' w k) lx mr q x1 x2 x3 r lo st ce sl env w k = true := hev
      unfold z_h_tableswitch at hev
      obtain ⟨a, t, rfl, hev_79⟩ := z_p1_ok hev
      obtain ⟨v1, c2, rfl, g1, hSR_80⟩ := z_SR_cons hSR
      have g1 := z_rs_ok he g1
      rcases z_ks_ok hev_79 with ⟨u, e1, hev_81⟩ | ⟨j, e1, hev_81⟩
      · rw [e1] at g1
        have g1 : v1 = .int (nI u) := g1
        subst g1
        cases hc : or (decide ((nI u).toInt < l0)) (decide (h0 < (nI u).toInt)) with
        | true =>
          rw [hc] at hev_81
          obtain ⟨tg, ht, hev_82⟩ := z_to_ok hev_81
          rw [Bool.or_eq_true] at hc
          exact lv_tableOut hx hb hdg (hc.imp of_decide_eq_true of_decide_eq_true) ht (go hev_82 (hj _) hSt ⟨⟨lv, hlv, hLR⟩, hSR_80⟩ hce hsl)
        | false =>
          rw [hc] at hev_81
          obtain ⟨of, ho, hev_83⟩ := z_op_ok hev_81
          obtain ⟨tg, ht, hev_84⟩ := z_to_ok hev_83
          rw [Bool.or_eq_false_iff] at hc
          exact lv_tableIn hx hb hdg (of_decide_eq_false hc.1) (of_decide_eq_false hc.2) ho ht (go hev_84 (hj _) hSt ⟨⟨lv, hlv, hLR⟩, hSR_80⟩ hce hsl)
      · rw [e1] at g1
        have g1 : v1 = .int (sg j) := g1
        subst g1
        obtain ⟨h1, hev_85⟩ := z_cond hev_81
        have h2 := of_decide_eq_true (z_and h1).1
        have h3 := of_decide_eq_true (z_and h1).2
        obtain ⟨tg, ht, hev_86⟩ := z_to_ok hev_85
        have hbi := z_b_int (sg j)
        obtain ⟨k1, k2⟩ := z_spl_ok (sg := sg) hev_86 he
        by_cases hlt : z_b (sg j) < x2
        · obtain ⟨e1, he1, hev_87⟩ := k1 hlt
          exact lv_tableOut hx hb hdg (Or.inl (by omega)) ht (go hev_87 (hj _) ⟨hK, hP, hD, hS0, hw, he1, hle⟩ ⟨⟨lv, hlv, hLR⟩, hSR_80⟩ hce hsl)
        · obtain ⟨e1, he1, hev_88⟩ := k2 hlt
          obtain ⟨k3, k4⟩ := z_spl_ok (sg := sg) hev_88 he1
          by_cases hlt2 : z_b (sg j) < x3
          · obtain ⟨e2, he2, hev_89⟩ := k3 hlt2
            exact re (z_con_ok hev_89 he2)
          · obtain ⟨e2, he2, hev_90⟩ := k4 hlt2
            exact lv_tableOut hx hb hdg (Or.inr (by omega)) ht (go hev_90 (hj _) ⟨hK, hP, hD, hS0, hw, he2, hle⟩ ⟨⟨lv, hlv, hLR⟩, hSR_80⟩ hce hsl)
    | lookupswitch d ps =>
      have hev : z_h_lookupswitch d ps cls zty zdv ms (z_ev cls zty zdv ms n) (fun env' => z_ev cls zty zdv ms n lx mr ((q, .lookupswitch d ps, x1, x2, x3) :: r) q lo st ce sl env' w k) lx mr q x1 x2 x3 r lo st ce sl env w k = true := hev
      unfold z_h_lookupswitch at hev
      obtain ⟨a, t, rfl, hev_91⟩ := z_p1_ok hev
      obtain ⟨v1, c2, rfl, g1, hSR_92⟩ := z_SR_cons hSR
      have g1 := z_rs_ok he g1
      rcases z_ks_ok hev_91 with ⟨u, e1, hev_93⟩ | ⟨j, e1, hev_93⟩
      · rw [e1] at g1
        have g1 : v1 = .int (nI u) := g1
        subst g1
        obtain ⟨h1, hev_94⟩ := z_cond hev_93
        obtain ⟨tg, ht, hev_95⟩ := z_to_ok hev_94
        exact lv_lookup hx hb hdg h1 rfl ht (go hev_95 (hj _) hSt ⟨⟨lv, hlv, hLR⟩, hSR_92⟩ hce hsl)
      · rw [e1] at g1
        have g1 : v1 = .int (sg j) := g1
        subst g1
        obtain ⟨h1, hev_96⟩ := z_cond hev_93
        obtain ⟨h2, h3⟩ := z_and h1
        have h3 : ∀ p ∈ ps.toList, (x2 : Int) ≤ p.1 + 2147483648 ∧ p.1 + 2147483648 < (x3 : Int) := fun p hp => ⟨of_decide_eq_true (z_and (List.all_eq_true.mp h3 p hp)).1, of_decide_eq_true (z_and (List.all_eq_true.mp h3 p hp)).2⟩
        obtain ⟨tg, ht, hev_97⟩ := z_to_ok hev_96
        have hbi := z_b_int (sg j)
        obtain ⟨k1, k2⟩ := z_spl_ok (sg := sg) hev_97 he
        by_cases hlt : z_b (sg j) < x2
        · obtain ⟨e1, he1, hev_98⟩ := k1 hlt
          exact lv_lookup hx hb hdg h2 (z_off (fun p hp => by have := h3 p hp; omega)) ht (go hev_98 (hj _) ⟨hK, hP, hD, hS0, hw, he1, hle⟩ ⟨⟨lv, hlv, hLR⟩, hSR_92⟩ hce hsl)
        · obtain ⟨e1, he1, hev_99⟩ := k2 hlt
          obtain ⟨k3, k4⟩ := z_spl_ok (sg := sg) hev_99 he1
          by_cases hlt2 : z_b (sg j) < x3
          · obtain ⟨e2, he2, hev_100⟩ := k3 hlt2
            exact re (z_con_ok hev_100 he2)
          · obtain ⟨e2, he2, hev_101⟩ := k4 hlt2
            exact lv_lookup hx hb hdg h2 (z_off (fun p hp => by have := h3 p hp; omega)) ht (go hev_101 (hj _) ⟨hK, hP, hD, hS0, hw, he2, hle⟩ ⟨⟨lv, hlv, hLR⟩, hSR_92⟩ hce hsl)
    | getfield j =>
      have hev : z_h_getfield j cls zty zdv ms (z_ev cls zty zdv ms n) (fun env' => z_ev cls zty zdv ms n lx mr ((q, .getfield j, x1, x2, x3) :: r) q lo st ce sl env' w k) lx mr q x1 x2 x3 r lo st ce sl env w k = true := hev
      unfold z_h_getfield at hev
      have hdg := z_dl hdg hlen rfl
      obtain ⟨a, t, rfl, hev_102⟩ := z_pr_ok hev
      obtain ⟨v1, c2, rfl, g1, hSR_103⟩ := z_SR_cons hSR
      obtain ⟨adr, ha, rfl⟩ := g1
      obtain ⟨ci, fs, h1, hev_104⟩ := z_ob_ok hev_102
      obtain ⟨h2, hev_105⟩ := z_cond hev_104
      have h2 := Nat.eq_of_beq_eq_true h2
      subst h2
      obtain ⟨v, h3, hev_106⟩ := z_opl_ok hev_105
      obtain ⟨vs, h4, h5⟩ := z_obj hw h1 ha
      obtain ⟨v2, h6, h7⟩ := z_SR_get h5 h3
      obtain ⟨⟨C, T, N⟩, k1, k2, k3⟩ := z_fl_ok (tb := tb) (own := (z_y mr).cls) (x3 := x3) (j := j) hokI
      refine va_get (D := D) (ci := ci) (C := C) (T := T) (N := N) hx hb hts (hA.1 ci _ k1).1 hown hK hP a h4 k1 x2 k2 (hts _ k3) (fun _ h9 => h9) h6 hdg (go hev_106 hr hSt ?_ hce hsl)
      exact ⟨⟨lv, hlv, hLR⟩, h7, hSR_103⟩
    | putfield j =>
      have hev : z_h_putfield j cls zty zdv ms (z_ev cls zty zdv ms n) (fun env' => z_ev cls zty zdv ms n lx mr ((q, .putfield j, x1, x2, x3) :: r) q lo st ce sl env' w k) lx mr q x1 x2 x3 r lo st ce sl env w k = true := hev
      unfold z_h_putfield at hev
      have hdg := z_dl hdg hlen rfl
      obtain ⟨v, st1, rfl, hev_107⟩ := z_p1_ok hev
      obtain ⟨a, t, rfl, hev_108⟩ := z_pr_ok hev_107
      obtain ⟨v1, c1, rfl, g0, hSR_109⟩ := z_SR_cons hSR
      obtain ⟨v2, c2, rfl, g1, hSR_110⟩ := z_SR_cons hSR_109
      obtain ⟨adr, ha, rfl⟩ := g1
      obtain ⟨ci, fs, h1, hev_111⟩ := z_ob_ok hev_108
      obtain ⟨h2, hev_112⟩ := z_cond hev_111
      have h2 := Nat.eq_of_beq_eq_true h2
      subst h2
      obtain ⟨v3, h3, hev_113⟩ := z_opl_ok hev_112
      obtain ⟨ty, h3t, hev_114⟩ := z_opl_ok hev_113
      obtain ⟨hft, hev_115⟩ := z_cond hev_114
      have hev_116 := (z_set_eq _ _ _ _).symm.trans hev_115
      have hev_117 := (z_set_eq _ _ _ _).symm.trans hev_116
      obtain ⟨vs, h4, h5⟩ := z_obj hw h1 ha
      obtain ⟨v4, h6, h7⟩ := z_SR_get h5 h3
      obtain ⟨⟨C, T, N⟩, k1, k2, k3, k4⟩ := z_fp_ok (tb := tb) (y := z_y mr) (x3 := x3) (j := j) hokI
      obtain ⟨f1, f2, f3, f4, ty', dv, f5, f6, f7, f8, f9⟩ := hA.1 ci _ k1
      have hty : ty' = ty := Option.some.inj (f5.symm.trans h3t)
      subst hty
      obtain ⟨n1, n2⟩ := z_fit_ok hft g0
      have hl : x2 < vs.length := (List.getElem?_eq_some_iff.mp h6).1
      have hFr1 : z_Fr sg b cw (z_mL mr) ls lo t c2 := ⟨⟨lv, hlv, hLR⟩, hSR_110⟩
      rcases k4 with k4 | ⟨k4, k5⟩
      · refine va_put (D := D) (ci := ci) (C := C) (T := T) (N := N) hx hb hts f1 ty' f7 f2 hown hK hP hD hS0 a h4 k1 x2 k2 (hts _ k3) (fun _ h9 => h9) k4 (f7 x2 k2) n1 n2 hl hdg (fun H1 locs1 hP1 hD1 hS1 => go hev_117 hr (z_St_set h4 hK hP1 hD1 hS1 hw ⟨rfl, z_SR_set g0 x2 h5⟩ he hle) (z_Fr_set h4 hFr1) hce hsl)
      · have hfin : (T x2).2.2.2 = true ∨ (T x2).2.2.2 = false := by cases (T x2).2.2.2 <;> simp
        rcases hfin with hfin | hfin
        · refine va_putF (D := D) (ci := ci) (C := C) (T := T) (N := N) hx hb hts f1 ty' f7 f2 hown hK hP hD hS0 a h4 k1 x2 k2 (hts _ k3) (fun _ h9 => h9) hfin (hin k4) k5 (f7 x2 k2) n1 n2 hl hdg (fun H1 locs1 hP1 hD1 hS1 => go hev_117 hr (z_St_set h4 hK hP1 hD1 hS1 hw ⟨rfl, z_SR_set g0 x2 h5⟩ he hle) (z_Fr_set h4 hFr1) hce hsl)
        · refine va_put (D := D) (ci := ci) (C := C) (T := T) (N := N) hx hb hts f1 ty' f7 f2 hown hK hP hD hS0 a h4 k1 x2 k2 (hts _ k3) (fun _ h9 => h9) hfin (f7 x2 k2) n1 n2 hl hdg (fun H1 locs1 hP1 hD1 hS1 => go hev_117 hr (z_St_set h4 hK hP1 hD1 hS1 hw ⟨rfl, z_SR_set g0 x2 h5⟩ he hle) (z_Fr_set h4 hFr1) hce hsl)
    | new j =>
      have hev : z_h_new j cls zty zdv ms (z_ev cls zty zdv ms n) (fun env' => z_ev cls zty zdv ms n lx mr ((q, .new j, x1, x2, x3) :: r) q lo st ce sl env' w k) lx mr q x1 x2 x3 r lo st ce sl env w k = true := hev
      unfold z_h_new at hev
      have hdg := z_dl hdg hlen rfl
      obtain ⟨⟨C, T, N⟩, h1, hev_118⟩ := z_opl_ok hev
      obtain ⟨dv, h2, hev_119⟩ := z_opl_ok hev_118
      obtain ⟨h3, h4, hev_120⟩ := z_mk_ok hev_119
      obtain ⟨c', k1, k2⟩ := z_nl_ok (tb := tb) (own := (z_y mr).cls) (x3 := x3) (j := j) hokI
      have hc' : c' = (C, T, N) := Option.some.inj (k1.symm.trans h1)
      subst hc'
      obtain ⟨f1, f2, f3, f4, ty, dv', f5, f6, f7, f8, f9⟩ := hA.1 x1 _ k1
      have hdv : dv' = dv := Option.some.inj (f6.symm.trans h2)
      subst hdv
      refine va_new (ci := x1) (fs := dv'.map z_cv) (C := C) (T := T) (N := N) hx hb hts f1 ty f7 hown (hts _ k2) (hts _ f3) (hts _ f4) hK hP hD hS0 hA0 k1 f9 (by rw [hR]; exact h3) (by rw [hR]; exact h4) hdg (fun q1 H1 hP1 hD1 hS1 => go hev_120 hr (z_St_push hK hP1 hD1 hS1 hw (fun _ _ h => h) ⟨rfl, z_cv_all f8⟩ he hle) (z_Fr_push hlv hLR hSR ⟨q1, z_new_ref (x := (q1, .inr (x1, dv'.map z_cv))) hw, rfl⟩) h3 h4)
    | newarray ty =>
      have hev : z_h_newarray ty cls zty zdv ms (z_ev cls zty zdv ms n) (fun env' => z_ev cls zty zdv ms n lx mr ((q, .newarray ty, x1, x2, x3) :: r) q lo st ce sl env' w k) lx mr q x1 x2 x3 r lo st ce sl env w k = true := hev
      unfold z_h_newarray at hev
      have hdg := z_dl hdg hlen rfl
      obtain ⟨a, t, rfl, hev_121⟩ := z_p1_ok hev
      obtain ⟨v1, c2, rfl, g1, hSR_122⟩ := z_SR_cons hSR
      have g1 := z_rs_ok he g1
      rcases z_ks_ok hev_121 with ⟨u, e1, hev_123⟩ | ⟨_, _, hev_123⟩
      · rw [e1] at g1
        have g1 : v1 = .int (nI u) := g1
        subst g1
        obtain ⟨kd, h1, hev_124⟩ := z_op_ok hev_123
        obtain ⟨h2, hev_125⟩ := z_cond hev_124
        have h2 := z_le_of h2
        obtain ⟨h3, h4, hev_126⟩ := z_mk_ok hev_125
        have hn : ¬ nI u < 0 := nI_pos (by omega)
        have hc : (nI u).toNatClampNeg = u := nI_clamp (by omega)
        have hce1 : ce + 1 ≤ R.cells := by rw [hR]; exact h3
        have hsl1 : sl + u ≤ R.slots := by rw [hR]; exact h4
        obtain ⟨a1, a2, a3, a4⟩ := hA.2.1
        cases ty with
        | int =>
          cases h1
          refine va_newa (atype := .int) (a0 := (u, .inl (fun _ => 0))) hx hb (hts _ a1) rfl hK hP hD hS0 hA0 (fun _ => rfl) hn hc (by show u * 4 ≤ _; omega) hce1 hsl1 hdg (fun q1 cA H1 hK1 hP1 hD1 hS1 => go hev_126 hr (z_St_push hK1 hP1 hD1 hS1 hw z_tys_app ⟨rfl, ⟨tys.length, z_tys_new⟩, ⟨_, rfl, fun j => by simp [z_g]; rfl⟩⟩ he hle) (z_Fr_push hlv hLR hSR_122 ⟨q1, z_new_ref (x := (q1, .inl (cA, u, .inl (fun _ => 0)))) hw, rfl⟩) h3 h4)
        | byte =>
          cases h1
          refine va_newa (atype := .byte) (a0 := (u, .inl (fun _ => 0))) hx hb (hts _ a2) rfl hK hP hD hS0 hA0 (fun _ => rfl) hn hc (by show u * 1 ≤ _; omega) hce1 hsl1 hdg (fun q1 cA H1 hK1 hP1 hD1 hS1 => go hev_126 hr (z_St_push hK1 hP1 hD1 hS1 hw z_tys_app ⟨rfl, ⟨tys.length, z_tys_new⟩, ⟨_, rfl, fun j => by simp [z_g]; rfl⟩⟩ he hle) (z_Fr_push hlv hLR hSR_122 ⟨q1, z_new_ref (x := (q1, .inl (cA, u, .inl (fun _ => 0)))) hw, rfl⟩) h3 h4)
        | boolean =>
          cases h1
          refine va_newa (atype := .boolean) (a0 := (u, .inl (fun _ => 0))) hx hb (hts _ a3) rfl hK hP hD hS0 hA0 (fun _ => rfl) hn hc (by show u * 1 ≤ _; omega) hce1 hsl1 hdg (fun q1 cA H1 hK1 hP1 hD1 hS1 => go hev_126 hr (z_St_push hK1 hP1 hD1 hS1 hw z_tys_app ⟨rfl, ⟨tys.length, z_tys_new⟩, ⟨_, rfl, fun j => by simp [z_g]; rfl⟩⟩ he hle) (z_Fr_push hlv hLR hSR_122 ⟨q1, z_new_ref (x := (q1, .inl (cA, u, .inl (fun _ => 0)))) hw, rfl⟩) h3 h4)
        | long =>
          cases h1
          refine va_newa (atype := .long) (a0 := (u, .inr (.inl (fun _ => 0)))) hx hb (hts _ a4) rfl hK hP hD hS0 hA0 (fun _ => rfl) hn hc (by show u * 8 ≤ _; omega) hce1 hsl1 hdg (fun q1 cA H1 hK1 hP1 hD1 hS1 => go hev_126 hr (z_St_push hK1 hP1 hD1 hS1 hw z_tys_app ⟨rfl, ⟨tys.length, z_tys_new⟩, ⟨_, rfl⟩⟩ he hle) (z_Fr_push hlv hLR hSR_122 ⟨q1, z_new_ref (x := (q1, .inl (cA, u, .inr (.inl (fun _ => 0))))) hw, rfl⟩) h3 h4)
        | _ => cases h1
      · cases hev_123
    | anewarray j =>
      have hev : z_h_anewarray j cls zty zdv ms (z_ev cls zty zdv ms n) (fun env' => z_ev cls zty zdv ms n lx mr ((q, .anewarray j, x1, x2, x3) :: r) q lo st ce sl env' w k) lx mr q x1 x2 x3 r lo st ce sl env w k = true := hev
      unfold z_h_anewarray at hev
      have hdg := z_dl hdg hlen rfl
      obtain ⟨a, t, rfl, hev_127⟩ := z_p1_ok hev
      obtain ⟨v1, c2, rfl, g1, hSR_128⟩ := z_SR_cons hSR
      have g1 := z_rs_ok he g1
      rcases z_ks_ok hev_127 with ⟨u, e1, hev_129⟩ | ⟨_, _, hev_129⟩
      · rw [e1] at g1
        have g1 : v1 = .int (nI u) := g1
        subst g1
        obtain ⟨h2, hev_130⟩ := z_cond hev_129
        have h2 := z_le_of h2
        obtain ⟨h3, h4, hev_131⟩ := z_mk_ok hev_130
        have hn : ¬ nI u < 0 := nI_pos (by omega)
        have hc : (nI u).toNatClampNeg = u := nI_clamp (by omega)
        have hce1 : ce + 1 ≤ R.cells := by rw [hR]; exact h3
        have hsl1 : sl + u ≤ R.slots := by rw [hR]; exact h4
        obtain ⟨c', k1, k2, k3⟩ := z_al_ok (tb := tb) (nw := nw) (own := (z_y mr).cls) (x2 := x2) (x3 := x3) (j := j) hokI
        have hcn : z_cn cls x1 = c'.1 := by unfold z_cn; rw [k1]
        have hk : ∀ cA : ClassId, (tys ++ [(cA, FieldType.object c'.1)])[tys.length]? = some (cA, z_kty cls (x1 + 4)) := fun cA => by
          show _ = some (_, FieldType.object (z_cn cls x1))
          rw [hcn]
          exact z_tys_new
        have hdr : ∀ ad : List Nat, z_DR (z_g sg ad b) (x1 + 4) [] (.inr (.inr (.inr (.inr (fun _ => none))))) := fun ad => ⟨fun _ => none, rfl, fun j => by simp [z_g, va_rf]⟩
        exact va_newq hx hb hown (hts _ k2) (hN.2 _ k3) hK hP hD hS0 hA0 hn hc (by omega) hce1 hsl1 hdg (fun q1 cA H1 hK1 hP1 hD1 hS1 => go hev_131 hr (z_St_push hK1 hP1 hD1 hS1 hw z_tys_app ⟨rfl, ⟨tys.length, hk cA⟩, hdr _⟩ he hle) (z_Fr_push hlv hLR hSR_128 ⟨q1, z_new_ref (x := (q1, .inl (cA, u, .inr (.inr (.inr (.inr (fun _ => none))))))) hw, rfl⟩) h3 h4)
      · cases hev_129
    | arraylength =>
      have hev : z_h_arraylength cls zty zdv ms (z_ev cls zty zdv ms n) (fun env' => z_ev cls zty zdv ms n lx mr ((q, .arraylength, x1, x2, x3) :: r) q lo st ce sl env' w k) lx mr q x1 x2 x3 r lo st ce sl env w k = true := hev
      unfold z_h_arraylength at hev
      have hdg := z_dl hdg hlen rfl
      obtain ⟨a, t, rfl, hev_132⟩ := z_p1_ok hev
      obtain ⟨v1, c2, rfl, g1, hSR_133⟩ := z_SR_cons hSR
      rcases z_rsc_ok hev_132 with ⟨a1, rfl, hev_134⟩ | ⟨rfl, hev_134⟩
      · obtain ⟨adr, ha, rfl⟩ := g1
        obtain ⟨kd, n1, pr, h1, hev_135⟩ := z_ar_ok hev_134
        obtain ⟨cA, d, t0, h2, h3, h4⟩ := z_row hw h1 ha
        refine va_alen hx hb hK hP a1 t0 h2 h3 (v := nI n1) rfl hdg (go hev_135 hr hSt ?_ hce hsl)
        exact ⟨⟨lv, hlv, hLR⟩, rfl, hSR_133⟩
      · have g1 : v1 = .ref b := g1
        subst g1
        obtain ⟨L, h1, hev_136⟩ := z_lx_ok hev_134
        obtain ⟨s1, s2, s3⟩ := hscr L h1
        refine va_slen hx hb s1 s2 s3 hS0 hdg (go hev_136 hr hSt ?_ hce hsl)
        exact ⟨⟨lv, hlv, hLR⟩, rfl, hSR_133⟩
    | iaload =>
      have hev : z_h_iaload cls zty zdv ms (z_ev cls zty zdv ms n) (fun env' => z_ev cls zty zdv ms n lx mr ((q, .iaload, x1, x2, x3) :: r) q lo st ce sl env' w k) lx mr q x1 x2 x3 r lo st ce sl env w k = true := hev
      unfold z_h_iaload at hev
      have hdg := z_dl hdg hlen rfl
      obtain ⟨j, st1, rfl, hev_137⟩ := z_p1_ok hev
      obtain ⟨a, t, rfl, hev_138⟩ := z_p1_ok hev_137
      obtain ⟨v0, c1, rfl, g0, hSR_139⟩ := z_SR_cons hSR
      obtain ⟨v1, c2, rfl, g1, hSR_140⟩ := z_SR_cons hSR_139
      rcases z_rsc_ok hev_138 with ⟨a1, rfl, hev_141⟩ | ⟨rfl, hev_141⟩
      · obtain ⟨adr, ha, rfl⟩ := g1
        obtain ⟨kd, n1, pr, h1, hev_142⟩ := z_ar_ok hev_141
        obtain ⟨h0, hev_143⟩ := z_cond hev_142
        have h0 := Nat.eq_of_beq_eq_true h0
        subst h0
        obtain ⟨cA, d, t0, h2, h3, f, rfl, h4⟩ := z_row hw h1 ha
        rcases z_ix_ok hev_143 he g0 with ⟨u, rfl, i1, i2, hev_144⟩ | h
        · refine va_iald hx hb hK hP a1 t0 h2 h3 i1 hdg ?_
          rw [i2]
          exact go ((z_gk_eq _ _ _ _).symm.trans hev_144) hr hSt ⟨⟨lv, hlv, hLR⟩, h4 u, hSR_140⟩ hce hsl
        · exact re h
      · have g1 : v1 = .ref b := g1
        subst g1
        obtain ⟨L, h1, hev_145⟩ := z_lx_ok hev_141
        obtain ⟨s1, s2, s3⟩ := hscr L h1
        rcases z_ix_ok hev_145 he g0 with ⟨u, rfl, i1, i2, hev_146⟩ | h
        · refine va_sld hx hb s1 s2 s3 hS0 i1 hdg ?_
          rw [i2]
          exact go hev_146 hr hSt ⟨⟨lv, hlv, hLR⟩, rfl, hSR_140⟩ hce hsl
        · exact re h
    | baload =>
      have hev : z_h_baload cls zty zdv ms (z_ev cls zty zdv ms n) (fun env' => z_ev cls zty zdv ms n lx mr ((q, .baload, x1, x2, x3) :: r) q lo st ce sl env' w k) lx mr q x1 x2 x3 r lo st ce sl env w k = true := hev
      unfold z_h_baload at hev
      have hdg := z_dl hdg hlen rfl
      obtain ⟨j, st1, rfl, hev_147⟩ := z_p1_ok hev
      obtain ⟨a1, t, rfl, hev_148⟩ := z_pr_ok hev_147
      obtain ⟨v0, c1, rfl, g0, hSR_149⟩ := z_SR_cons hSR
      obtain ⟨v1, c2, rfl, g1, hSR_150⟩ := z_SR_cons hSR_149
      obtain ⟨adr, ha, rfl⟩ := g1
      obtain ⟨kd, n1, pr, h1, hev_151⟩ := z_ar_ok hev_148
      obtain ⟨h0, hev_152⟩ := z_cond hev_151
      rw [Bool.or_eq_true] at h0
      rcases z_ix_ok hev_152 he g0 with ⟨u, rfl, i1, i2, hev_153⟩ | h
      · rcases h0 with h0 | h0
        · have h0 := Nat.eq_of_beq_eq_true h0
          subst h0
          obtain ⟨cA, d, t0, h2, h3, f, rfl, h4⟩ := z_row hw h1 ha
          refine va_bald hx hb hK hP a1 t0 h2 h3 i1 hdg ?_
          rw [i2]
          exact go ((z_gk_eq _ _ _ _).symm.trans hev_153) hr hSt ⟨⟨lv, hlv, hLR⟩, h4 u, hSR_150⟩ hce hsl
        · have h0 := Nat.eq_of_beq_eq_true h0
          subst h0
          obtain ⟨cA, d, t0, h2, h3, f, rfl, h4⟩ := z_row hw h1 ha
          refine va_zald hx hb hK hP a1 t0 h2 h3 i1 hdg ?_
          rw [i2]
          exact go ((z_gk_eq _ _ _ _).symm.trans hev_153) hr hSt ⟨⟨lv, hlv, hLR⟩, h4 u, hSR_150⟩ hce hsl
      · exact re h
    | aaload =>
      have hev : z_h_aaload cls zty zdv ms (z_ev cls zty zdv ms n) (fun env' => z_ev cls zty zdv ms n lx mr ((q, .aaload, x1, x2, x3) :: r) q lo st ce sl env' w k) lx mr q x1 x2 x3 r lo st ce sl env w k = true := hev
      unfold z_h_aaload at hev
      have hdg := z_dl hdg hlen rfl
      obtain ⟨j, st1, rfl, hev_154⟩ := z_p1_ok hev
      obtain ⟨a1, t, rfl, hev_155⟩ := z_pr_ok hev_154
      obtain ⟨v0, c1, rfl, g0, hSR_156⟩ := z_SR_cons hSR
      obtain ⟨v1, c2, rfl, g1, hSR_157⟩ := z_SR_cons hSR_156
      obtain ⟨adr, ha, rfl⟩ := g1
      obtain ⟨kd, n1, pr, h1, hev_158⟩ := z_ar_ok hev_155
      obtain ⟨h0, hev_159⟩ := z_cond hev_158
      have h0 := z_le_of h0
      obtain ⟨kd, rfl⟩ : ∃ k, kd = k + 4 := ⟨kd - 4, by omega⟩
      rcases z_ix_ok hev_159 he g0 with ⟨u, rfl, i1, i2, hev_160⟩ | h
      · obtain ⟨cA, d, t0, h2, h3, f, rfl, h4⟩ := z_row hw h1 ha
        refine va_aldq hx hb hK hP a1 t0 h2 h3 i1 hdg ?_
        rw [i2]
        exact go ((z_gk_eq _ _ _ _).symm.trans hev_160) hr hSt ⟨⟨lv, hlv, hLR⟩, h4 u, hSR_157⟩ hce hsl
      · exact re h
    | iastore =>
      have hev : z_h_iastore cls zty zdv ms (z_ev cls zty zdv ms n) (fun env' => z_ev cls zty zdv ms n lx mr ((q, .iastore, x1, x2, x3) :: r) q lo st ce sl env' w k) lx mr q x1 x2 x3 r lo st ce sl env w k = true := hev
      unfold z_h_iastore at hev
      have hdg := z_dl hdg hlen rfl
      obtain ⟨v, st1, rfl, hev_161⟩ := z_p1_ok hev
      obtain ⟨j, st2, rfl, hev_162⟩ := z_p1_ok hev_161
      obtain ⟨a1, t, rfl, hev_163⟩ := z_pr_ok hev_162
      obtain ⟨vv, c0, rfl, gv, hSR_164⟩ := z_SR_cons hSR
      obtain ⟨v0, c1, rfl, g0, hSR_165⟩ := z_SR_cons hSR_164
      obtain ⟨v1, c2, rfl, g1, hSR_166⟩ := z_SR_cons hSR_165
      obtain ⟨adr, ha, rfl⟩ := g1
      obtain ⟨kd, n1, pr, h1, hev_167⟩ := z_ar_ok hev_163
      obtain ⟨h0, hev_168⟩ := z_cond hev_167
      obtain ⟨h0, hi⟩ := z_and h0
      have h0 := Nat.eq_of_beq_eq_true h0
      subst h0
      obtain ⟨x, rfl⟩ := z_isI_ok hi gv
      obtain ⟨cA, d, t0, h2, h3, f, rfl, h4⟩ := z_row hw h1 ha
      rcases z_ix_ok hev_168 he g0 with ⟨u, rfl, i1, i2, hev_169⟩ | h
      · obtain ⟨pr', p1, p2⟩ := z_pst_eq (β := Bool) (.inl 0) v pr u
        have hev_170 := (p1 _).symm.trans hev_169
        have hev_171 := (z_set_eq _ _ _ _).symm.trans hev_170
        refine va_iast hx hb hK hP hD hS0 a1 t0 h2 h3 i1 hdg (fun H1 locs1 hP1 hD1 hS1 => ?_)
        refine go hev_171 hr (z_St_set h2 hK hP1 hD1 hS1 hw ⟨rfl, ⟨t0, h3⟩, ⟨_, rfl, fun j => ?_⟩⟩ he hle) (z_Fr_set h2 ⟨⟨lv, hlv, hLR⟩, hSR_166⟩) hce hsl
        rw [p2, i2]
        by_cases hj : j = u
        · subst hj; simpa [upd] using gv
        · simpa [upd, hj] using h4 j
      · exact re h
    | bastore =>
      have hev : z_h_bastore cls zty zdv ms (z_ev cls zty zdv ms n) (fun env' => z_ev cls zty zdv ms n lx mr ((q, .bastore, x1, x2, x3) :: r) q lo st ce sl env' w k) lx mr q x1 x2 x3 r lo st ce sl env w k = true := hev
      unfold z_h_bastore at hev
      have hdg := z_dl hdg hlen rfl
      obtain ⟨v, st1, rfl, hev_172⟩ := z_p1_ok hev
      obtain ⟨j, st2, rfl, hev_173⟩ := z_p1_ok hev_172
      obtain ⟨a1, t, rfl, hev_174⟩ := z_pr_ok hev_173
      obtain ⟨vv, c0, rfl, gv, hSR_175⟩ := z_SR_cons hSR
      obtain ⟨v0, c1, rfl, g0, hSR_176⟩ := z_SR_cons hSR_175
      obtain ⟨v1, c2, rfl, g1, hSR_177⟩ := z_SR_cons hSR_176
      obtain ⟨adr, ha, rfl⟩ := g1
      obtain ⟨kd, n1, pr, h1, hev_178⟩ := z_ar_ok hev_174
      cases hc : and (Nat.beq kd 1) (z_isI v) with
      | true =>
        rw [hc] at hev_178
        obtain ⟨h0, hi⟩ := z_and hc
        have h0 := Nat.eq_of_beq_eq_true h0
        subst h0
        obtain ⟨x, rfl⟩ := z_isI_ok hi gv
        obtain ⟨cA, d, t0, h2, h3, f, rfl, h4⟩ := z_row hw h1 ha
        rcases z_ix_ok (k := fun u => _) hev_178 he g0 with ⟨u, rfl, i1, i2, hev_179⟩ | h
        · obtain ⟨pr', p1, p2⟩ := z_pst_eq (β := Bool) (.inl 0) z_any pr u
          have hev_180 := (p1 _).symm.trans hev_179
          have hev_181 := (z_set_eq _ _ _ _).symm.trans hev_180
          refine va_bast hx hb hK hP hD hS0 a1 t0 h2 h3 i1 hdg (fun H1 locs1 hP1 hD1 hS1 => ?_)
          refine go hev_181 hr (z_St_set h2 hK hP1 hD1 hS1 hw ⟨rfl, ⟨t0, h3⟩, ⟨_, rfl, fun j => ?_⟩⟩ he hle) (z_Fr_set h2 ⟨⟨lv, hlv, hLR⟩, hSR_177⟩) hce hsl
          rw [p2, i2]
          by_cases hj : j = u
          · subst hj
            rw [if_pos rfl]
            exact ⟨_, rfl⟩
          · simpa [upd, hj] using h4 j
        · exact re h
      | false =>
        rw [hc] at hev_178
        obtain ⟨h0, hev_182⟩ := z_cond hev_178
        obtain ⟨h0, hi⟩ := z_and h0
        have h0 := Nat.eq_of_beq_eq_true h0
        subst h0
        obtain ⟨cA, d, t0, h2, h3, f, rfl, h4⟩ := z_row hw h1 ha
        have hx2 : ∃ x, vv = .int x ∧ vp_nar .boolean x = x := by
          rcases z_isB_ok hi gv with rfl | rfl
          · exact ⟨0, rfl, by decide⟩
          · exact ⟨1, rfl, by decide⟩
        obtain ⟨x, rfl, hnx⟩ := hx2
        rcases z_ix_ok hev_182 he g0 with ⟨u, rfl, i1, i2, hev_183⟩ | h
        · obtain ⟨pr', p1, p2⟩ := z_pst_eq (β := Bool) (.inl 0) v pr u
          have hev_184 := (p1 _).symm.trans hev_183
          have hev_185 := (z_set_eq _ _ _ _).symm.trans hev_184
          refine va_zast hx hb hK hP hD hS0 a1 t0 h2 h3 i1 hdg (fun H1 locs1 hP1 hD1 hS1 => ?_)
          refine go hev_185 hr (z_St_set h2 hK hP1 hD1 hS1 hw ⟨rfl, ⟨t0, h3⟩, ⟨_, rfl, fun j => ?_⟩⟩ he hle) (z_Fr_set h2 ⟨⟨lv, hlv, hLR⟩, hSR_177⟩) hce hsl
          rw [p2, i2, hnx]
          by_cases hj : j = u
          · subst hj; simpa [upd] using gv
          · simpa [upd, hj] using h4 j
        · exact re h
    | aastore =>
      have hev : z_h_aastore cls zty zdv ms (z_ev cls zty zdv ms n) (fun env' => z_ev cls zty zdv ms n lx mr ((q, .aastore, x1, x2, x3) :: r) q lo st ce sl env' w k) lx mr q x1 x2 x3 r lo st ce sl env w k = true := hev
      unfold z_h_aastore at hev
      have hdg := z_dl hdg hlen rfl
      obtain ⟨b1, st1, rfl, hev_186⟩ := z_pr_ok hev
      obtain ⟨j, st2, rfl, hev_187⟩ := z_p1_ok hev_186
      obtain ⟨a1, t, rfl, hev_188⟩ := z_pr_ok hev_187
      obtain ⟨vv, c0, rfl, gv, hSR_189⟩ := z_SR_cons hSR
      obtain ⟨v0, c1, rfl, g0, hSR_190⟩ := z_SR_cons hSR_189
      obtain ⟨v1, c2, rfl, g1, hSR_191⟩ := z_SR_cons hSR_190
      obtain ⟨adr, ha, rfl⟩ := g1
      have gv0 := gv
      obtain ⟨adb, hb1, rfl⟩ := gv
      obtain ⟨kd, n1, pr, h1, hev_192⟩ := z_ar_ok hev_188
      obtain ⟨ci, fs, h5, hev_193⟩ := z_ob_ok hev_192
      obtain ⟨h0, hev_194⟩ := z_cond hev_193
      have h0 := Nat.eq_of_beq_eq_true h0
      subst h0
      obtain ⟨cA, d, t0, h2, h3, f, rfl, h4⟩ := z_row hw h1 ha
      obtain ⟨vs, h6, h7⟩ := z_obj hw h5 hb1
      rcases z_ix_ok hev_194 he g0 with ⟨u, rfl, i1, i2, hev_195⟩ | h
      · obtain ⟨pr', p1, p2⟩ := z_pst_eq (β := Bool) z_null (z_rf b1) pr u
        have hev_196 := (p1 _).symm.trans hev_195
        have hev_197 := (z_set_eq _ _ _ _).symm.trans hev_196
        cases hcl : cls[ci]? with
        | none =>
          obtain ⟨r0, q1, q2⟩ := hP b1 _ h6
          rw [hcl] at q1
          cases q1
        | some rr =>
          have hcn : z_cn cls ci = rr.1 := by unfold z_cn; rw [hcl]
          have h3' : tys[t0]? = some (cA, .object rr.1) := by rw [← hcn]; exact h3
          refine va_astq hx hb hK hP hD hS0 a1 t0 b1 ci h2 h3' h6 hcl i1 hdg (fun H1 locs1 hP1 hD1 hS1 => ?_)
          refine go hev_197 hr (z_St_set h2 hK hP1 hD1 hS1 hw ⟨rfl, ⟨t0, h3⟩, ⟨_, rfl, fun j => ?_⟩⟩ he hle) (z_Fr_set h2 ⟨⟨lv, hlv, hLR⟩, hSR_191⟩) hce hsl
          rw [p2, i2]
          by_cases hj : j = u
          · subst hj; simpa [va_up, va_rf] using gv0
          · simpa [va_up, hj] using h4 j
      · exact re h
    | ireturn =>
      have hev : z_h_ireturn cls zty zdv ms (z_ev cls zty zdv ms n) (fun env' => z_ev cls zty zdv ms n lx mr ((q, .ireturn, x1, x2, x3) :: r) q lo st ce sl env' w k) lx mr q x1 x2 x3 r lo st ce sl env w k = true := hev
      unfold z_h_ireturn at hev
      have hdg := z_dl hdg hlen rfl
      obtain ⟨a, rfl, hev_198⟩ := z_one_ok hev
      obtain ⟨h1, hev_199⟩ := z_cond hev_198
      obtain ⟨v1, c2, rfl, g1, hSR_200⟩ := z_SR_cons hSR
      have hc2 := z_SR_nil hSR_200
      subst hc2
      refine hend H locs cw tys ls _ q ce sl env w (some a) hSt hce hsl hev_199 (Or.inr (Or.inl ?_))
      unfold z_rti at h1
      split at h1
      · rename_i hrt
        obtain ⟨x, rfl⟩ := z_isI_ok h1 g1
        exact ⟨a, x, .int, rfl, rfl, g1, hrt, rfl, hdg⟩
      · rename_i hrt
        rcases z_isB_ok h1 g1 with rfl | rfl
        · exact ⟨a, 0, .boolean, rfl, rfl, g1, hrt, by decide, hdg⟩
        · exact ⟨a, 1, .boolean, rfl, rfl, g1, hrt, by decide, hdg⟩
      · cases h1
    | areturn =>
      have hev : z_h_areturn cls zty zdv ms (z_ev cls zty zdv ms n) (fun env' => z_ev cls zty zdv ms n lx mr ((q, .areturn, x1, x2, x3) :: r) q lo st ce sl env' w k) lx mr q x1 x2 x3 r lo st ce sl env w k = true := hev
      unfold z_h_areturn at hev
      have hdg := z_dl hdg hlen rfl
      obtain ⟨a, rfl, hev_201⟩ := z_one_ok hev
      obtain ⟨h1, hev_202⟩ := z_cond hev_201
      obtain ⟨v1, c2, rfl, g1, hSR_203⟩ := z_SR_cons hSR
      have hc2 := z_SR_nil hSR_203
      subst hc2
      refine hend H locs cw tys ls _ q ce sl env w (some a) hSt hce hsl hev_202 (Or.inr (Or.inr ?_))
      unfold z_rto at h1
      split at h1
      · rename_i nn hrt
        exact ⟨a, v1, _, rfl, rfl, g1, z_isO_ok h1 g1, hrt, Or.inl ⟨_, rfl⟩, hdg⟩
      · rename_i nn hrt
        exact ⟨a, v1, _, rfl, rfl, g1, z_isO_ok h1 g1, hrt, Or.inr ⟨_, rfl⟩, hdg⟩
      · cases h1
    | return_ =>
      have hev : z_h_return_ cls zty zdv ms (z_ev cls zty zdv ms n) (fun env' => z_ev cls zty zdv ms n lx mr ((q, .return_, x1, x2, x3) :: r) q lo st ce sl env' w k) lx mr q x1 x2 x3 r lo st ce sl env w k = true := hev
      unfold z_h_return_ at hev
      have hdg := z_dl hdg hlen rfl
      obtain ⟨h1, hev_204⟩ := z_cond hev
      cases st with
      | cons a0 t0 => cases h1
      | nil =>
        cases hrt : z_rt mr with
        | some ty => rw [hrt] at h1; cases h1
        | none =>
          have hc2 := z_SR_nil hSR
          subst hc2
          exact hend H locs cw tys ls _ q ce sl env w none hSt hce hsl hev_204 (Or.inl ⟨rfl, rfl, hrt, hdg⟩)
    | invokevirtual j =>
      have hev : z_h_invokevirtual j cls zty zdv ms (z_ev cls zty zdv ms n) (fun env' => z_ev cls zty zdv ms n lx mr ((q, .invokevirtual j, x1, x2, x3) :: r) q lo st ce sl env' w k) lx mr q x1 x2 x3 r lo st ce sl env w k = true := hev
      unfold z_h_invokevirtual at hev
      have hdg := z_dl hdg hlen rfl
      obtain ⟨xs, st1, hn, rfl, hev_205⟩ := z_pop_ok hev
      obtain ⟨a, t, rfl, hev_206⟩ := z_pr_ok hev_205
      obtain ⟨cm, hcm, hev_207⟩ := z_opl_ok hev_206
      obtain ⟨ci, fs, h1, hev_208⟩ := z_ob_ok hev_207
      obtain ⟨h2, hev_209⟩ := z_cond hev_208
      have h2 := Nat.eq_of_beq_eq_true h2
      obtain ⟨cx, c1, rfl, hSx, hSR_210⟩ := z_SR_split hSR
      obtain ⟨v1, ct, rfl, g1, hSR_211⟩ := z_SR_cons hSR_210
      have g1' := g1
      obtain ⟨adr, ha, rfl⟩ := g1
      obtain ⟨vs, h4, h5⟩ := z_obj hw h1 ha
      obtain ⟨⟨⟨p1, p2, p3, p4, hM1⟩, hMc⟩, hM2⟩ := hA.2.2.2 x1 cm hcm
      obtain ⟨m1, m2, m3, m4, m7⟩ := z_okM_ok hMc hM1
      have hokI : (match ms[x1]? with
        | some cm => and (and (Nat.blt (z_ci cm) 100) (decide ((z_y cm).name ≠ "<init>"))) (and (decide ((parseMethodDescriptor (z_y cm).desc).map (fun d => d.parameters.length) = some (x2 % 100))) (z_w tb x3 (.methodLink (z_y mr).cls j (z_y cm))))
        | none => false) = true := hokI
      rw [hcm] at hokI
      obtain ⟨o0, o3⟩ := z_and hokI
      obtain ⟨o1, o2⟩ := z_and o3
      obtain ⟨⟨m8, m9⟩, cq, m5, m6⟩ := m4 (z_lt_of (z_and o0).1)
      have m9 : Jvm.Cond.selects (z_y cm).cls (z_y cm) (z_y cm) ∈ z_G tb := m9.elim (fun z => absurd z (of_decide_eq_true (z_and o0).2)) id
      subst h2
      refine z_call_ok hA hS hF hSt hcm hev_209 (av := .ref adr :: cx.reverse) (ct := ct) ⟨g1', by rw [List.append_nil]; exact z_SR_rev hSx⟩ hSR_211 (fun hcat hRm hf hpre k0 hM => ?_) (fun env' t' w' H1 locs1 cw' tys' ct' hev hSt' hst' hle' q1 q2 => go hev hr hSt' ⟨⟨lv, hlv, z_LR_mono (fun _ _ => z_g_mono hle') hLR⟩, hst'⟩ q1 q2)
      exact va_runV (As := cx.reverse) (rest := ct) (C := (z_y cm).cls) ⟨hx, hb, hml, hown, hts⟩ hM (cwV (x2 % 100) hts (z_goodV m1 (z_w_ok o2) m8 m9 m2) rfl rfl rfl ⟨rfl, m3.1, m3.2, of_decide_eq_true o1⟩ hRm) ⟨hpre.1, by rw [← m6]; exact va_recv hK hP m5 h4, hpre.2⟩ rfl (by rw [List.length_reverse, ← z_SR_len hSx]; exact hn) hlv.1 (by rw [List.reverse_reverse]) (lv_room hcat) hdg hf
    | invokestatic j =>
      have hev : z_h_invokestatic j cls zty zdv ms (z_ev cls zty zdv ms n) (fun env' => z_ev cls zty zdv ms n lx mr ((q, .invokestatic j, x1, x2, x3) :: r) q lo st ce sl env' w k) lx mr q x1 x2 x3 r lo st ce sl env w k = true := hev
      unfold z_h_invokestatic at hev
      have hdg := z_dl hdg hlen rfl
      obtain ⟨xs, t, hn, rfl, hev_212⟩ := z_pop_ok hev
      obtain ⟨cm, hcm, hev_213⟩ := z_opl_ok hev_212
      obtain ⟨cx, ct, rfl, hSx, hSR_214⟩ := z_SR_split hSR
      obtain ⟨⟨⟨p1, p2, p3, p4, hM1⟩, hMc⟩, hM2⟩ := hA.2.2.2 x1 cm hcm
      obtain ⟨m1, m2, m3, m4, m7⟩ := z_okM_ok hMc hM1
      have hokI : (match ms[x1]? with
        | some cm => and (Nat.ble 100 (z_ci cm)) (and (decide ((parseMethodDescriptor (z_y cm).desc).map (fun d => d.parameters.length) = some (x2 % 100))) (cond (Nat.ble 100 x2) (match nw[x3]? with
            | some (.methodLinkNest a b y _) => and (and (decide (a = (z_y mr).cls)) (decide (b = j))) (decide (y = z_y cm))
            | _ => false) (and (z_w tb x3 (.methodLink (z_y mr).cls j (z_y cm))) (decide ((z_y cm).cls = (z_y mr).cls)))))
        | none => false) = true := hokI
      rw [hcm] at hokI
      obtain ⟨o0, o3⟩ := z_and hokI
      obtain ⟨o1, o2⟩ := z_and o3
      have m7 := m7 (z_le_of o0)
      refine z_call_ok hA hS hF hSt hcm hev_213 (av := cx.reverse) (ct := ct) (by rw [List.append_nil]; exact z_SR_rev hSx) hSR_214 (fun hcat hRm hf hpre k0 hM => ?_) (fun env' t' w' H1 locs1 cw' tys' ct' hev hSt' hst' hle' q1 q2 => go hev hr hSt' ⟨⟨lv, hlv, z_LR_mono (fun _ _ => z_g_mono hle') hLR⟩, hst'⟩ q1 q2)
      cases hnest : Nat.ble 100 x2 with
      | true =>
        rw [hnest, cond_true] at o2
        obtain ⟨host, hh⟩ := z_nest_ok o2
        exact va_runSN (As := cx.reverse) (rest := ct) ⟨hx, hb, hml, hown, hts⟩ hM ⟨va_cnB (x2 % 100) hts (z_goodIn m1) rfl rfl rfl (hN.1 _ _ _ _ hh) (hts _ m2) ⟨m3.1, m3.2, of_decide_eq_true o1⟩ hRm, hts _ m7, trivial⟩ hpre rfl (by rw [List.length_reverse, ← z_SR_len hSx]; exact hn) hlv.1 (by rw [List.reverse_reverse]) (lv_room hcat) hdg hf
      | false =>
        rw [hnest, cond_false] at o2
        obtain ⟨o4, o5⟩ := z_and o2
        have o5 := of_decide_eq_true o5
        exact va_runS (As := cx.reverse) (rest := ct) ⟨hx, hb, hml, hown, hts⟩ hM (cwS (x2 % 100) hts (z_goodS m1 (z_w_ok o4) m7 (by rw [← o5]; exact m2)) rfl rfl rfl ⟨o5, m3.1, m3.2, of_decide_eq_true o1⟩ hRm) hpre rfl (by rw [List.length_reverse, ← z_SR_len hSx]; exact hn) hlv.1 (by rw [List.reverse_reverse]) (lv_room hcat) hdg hf
    | invokespecial j =>
      have hev : z_h_invokespecial j cls zty zdv ms (z_ev cls zty zdv ms n) (fun env' => z_ev cls zty zdv ms n lx mr ((q, .invokespecial j, x1, x2, x3) :: r) q lo st ce sl env' w k) lx mr q x1 x2 x3 r lo st ce sl env w k = true := hev
      unfold z_h_invokespecial at hev
      have hdg := z_dl hdg hlen rfl
      have hokI : cond (Nat.beq x2 50) (z_w tb x3 (.methodLink (z_y mr).cls j objectInit)) (match ms[x1]? with
        | some cm => and (and (Nat.blt (z_ci cm) 100) (and (decide ((z_y cm).name = "<init>")) (decide (z_rt cm = none)))) (and (decide ((parseMethodDescriptor (z_y cm).desc).map (fun d => d.parameters.length) = some (x2 % 100))) (cond (Nat.ble 100 x2) (match nw[x3]? with
            | some (.methodLinkNest a b y _) => and (and (decide (a = (z_y mr).cls)) (decide (b = j))) (decide (y = z_y cm))
            | _ => false) (z_w tb x3 (.methodLink (z_y mr).cls j (z_y cm)))))
        | none => false) = true := hokI
      cases h50 : Nat.beq x2 50 with
      | true =>
        rw [h50, cond_true] at hokI
        rw [h50, cond_true] at hev
        obtain ⟨a, t, rfl, hev_215⟩ := z_pr_ok hev
        obtain ⟨v1, ct, rfl, g1, hSR_216⟩ := z_SR_cons hSR
        obtain ⟨adr, ha, rfl⟩ := g1
        obtain ⟨o0, hev_217⟩ := z_cond hev_215
        obtain ⟨o1, o2⟩ := z_and o0
        obtain ⟨o3, o4⟩ := z_and o1
        obtain ⟨o5, o6⟩ := z_and o2
        have hcat : (ct.map fun v => v.category).sum ≤ 8 := by
          rw [z_SR_cat (fun a v h hg => z_c1_ok h hg) o3 hSR_216, ← z_SR_len hSR_216, ← z_len_eq]
          exact z_le_of o4
        have hroom := lv_room (m := m) (pc := q) (ls := ls) (rest := .ref adr :: ct) hcat
        refine W.objInit hx hb hown (hts _ (z_w_ok hokI)) (hts _ hA.2.2.1.1) (hts _ hA.2.2.1.2) rfl (hlv.1.trans hml.symm) rfl hdg (by rw [hR]; exact z_le_of o5) (by rw [hR]; have := z_le_of o6; omega) ?_
        exact go hev_217 hr hSt ⟨⟨lv, hlv, hLR⟩, hSR_216⟩ hce hsl
      | false =>
        rw [h50, cond_false] at hokI
        rw [h50, cond_false] at hev
        obtain ⟨xs, st1, hn, rfl, hev_218⟩ := z_pop_ok hev
        obtain ⟨a, t, rfl, hev_219⟩ := z_pr_ok hev_218
        obtain ⟨cm, hcm, hev_220⟩ := z_opl_ok hev_219
        obtain ⟨cx, c1, rfl, hSx, hSR_221⟩ := z_SR_split hSR
        obtain ⟨v1, ct, rfl, g1, hSR_222⟩ := z_SR_cons hSR_221
        have g1' := g1
        obtain ⟨adr, ha, rfl⟩ := g1
        obtain ⟨⟨⟨p1, p2, p3, p4, hM1⟩, hMc⟩, hM2⟩ := hA.2.2.2 x1 cm hcm
        obtain ⟨m1, m2, m3, m4, m7⟩ := z_okM_ok hMc hM1
        rw [hcm] at hokI
        obtain ⟨o0, o3⟩ := z_and hokI
        obtain ⟨o1, o2⟩ := z_and o3
        obtain ⟨o4, o5⟩ := z_and o0
        obtain ⟨⟨m8, m9⟩, cq, m5, m6⟩ := m4 (z_lt_of o4)
        have hini := of_decide_eq_true (z_and o5).1
        have hrt := of_decide_eq_true (z_and o5).2
        refine z_call_ok hA hS hF hSt hcm hev_220 (av := .ref adr :: cx.reverse) (ct := ct) ⟨g1', by rw [List.append_nil]; exact z_SR_rev hSx⟩ hSR_222 (fun hcat hRm hf hpre k0 hM => ?_) (fun env' t' w' H1 locs1 cw' tys' ct' hev hSt' hst' hle' q1 q2 => go hev hr hSt' ⟨⟨lv, hlv, z_LR_mono (fun _ _ => z_g_mono hle') hLR⟩, hst'⟩ q1 q2)
        have hws : z_ws tb cm = Jvm.Cond.code (z_y cm) (z_cc cm) (z_mL cm) none :: z_G tb := by unfold z_ws; rw [hrt]
        cases hnest : Nat.ble 100 x2 with
        | true =>
          rw [hnest, cond_true] at o2
          obtain ⟨host, hh⟩ := z_nest_ok o2
          exact va_runIN (As := cx.reverse) (rest := ct) ⟨hx, hb, hml, hown, hts⟩ hM ⟨va_cnB (x2 % 100) hts (z_goodIn m1) hws rfl rfl (hN.1 _ _ _ _ hh) (hts _ m2) ⟨m3.1, m3.2, of_decide_eq_true o1⟩ hRm, hini, hts _ m8⟩ hpre rfl (by rw [List.length_reverse, ← z_SR_len hSx]; exact hn) hlv.1 (by rw [List.reverse_reverse]) (lv_room hcat) hdg hf
        | false =>
          rw [hnest, cond_false] at o2
          exact va_runI (As := cx.reverse) (rest := ct) ⟨hx, hb, hml, hown, hts⟩ hM (cwI (x2 % 100) hts (z_goodIn m1) hws rfl rfl (hts _ m2) (hts _ (z_w_ok o2)) (hts _ m8) hini ⟨m3.1, m3.2, of_decide_eq_true o1⟩ hRm) hpre rfl (by rw [List.length_reverse, ← z_SR_len hSx]; exact hn) hlv.1 (by rw [List.reverse_reverse]) (lv_room hcat) hdg hf
    | _ => exact absurd (show false = true from hev) Bool.false_ne_true
end
section
-- written by wip/p1/gen.py: words, classes, methods as the abstract machine has them
noncomputable def ztb : zTB := [k2_sels lw_privs, tables_1_1, tables_1_2, tables_1_3, tables_1_4, tables_1_5, tables_1_6, tables_1_7, tables_1_8, tables_1_9, tables_1_10, tables_1_11, tables_1_12, tables_1_13]
def znw : List Jvm.Cond := [.methodLinkNest "RailwayHouse" 9 ⟨"RailwayHouse$Reader", "<init>", "()V"⟩ "RailwayHouse", .methodLinkNest "RailwayHouse$Reader" 17 ⟨"RailwayHouse$Layout", "<init>", "()V"⟩ "RailwayHouse", .methodLinkNest "RailwayHouse" 18 ⟨"RailwayHouse$Layout", "<init>", "()V"⟩ "RailwayHouse", .arrayOver (.object "RailwayHouse$Channel"), .arrayOver (.object "RailwayHouse$Train"), .methodLinkNest "RailwayHouse" 73 ⟨"RailwayHouse$Line", "<init>", "()V"⟩ "RailwayHouse", .methodLinkNest "RailwayHouse$Channel" 105 ⟨"RailwayHouse", "bitOf", "(II)I"⟩ "RailwayHouse", .methodLinkNest "RailwayHouse$Channel" 162 ⟨"RailwayHouse", "withBit", "(IIZ)I"⟩ "RailwayHouse", .methodLinkNest "RailwayHouse$Vote" 73 ⟨"RailwayHouse", "bitOf", "(II)I"⟩ "RailwayHouse", .methodLinkNest "RailwayHouse$Reports" 44 ⟨"RailwayHouse", "bitOf", "(II)I"⟩ "RailwayHouse", .methodLinkNest "RailwayHouse$Yard" 65 ⟨"RailwayHouse", "withBit", "(IIZ)I"⟩ "RailwayHouse", .methodLinkNest "RailwayHouse$Yard" 69 ⟨"RailwayHouse", "bitOf", "(II)I"⟩ "RailwayHouse", .methodLinkNest "RailwayHouse$Yard" 90 ⟨"RailwayHouse$Train", "<init>", "()V"⟩ "RailwayHouse", .methodLinkNest "RailwayHouse$Reports" 61 ⟨"RailwayHouse", "withBit", "(IIZ)I"⟩ "RailwayHouse", .methodLinkNest "RailwayHouse$Vote" 141 ⟨"RailwayHouse", "withBit", "(IIZ)I"⟩ "RailwayHouse", .methodLinkNest "RailwayHouse$Timetable" 74 ⟨"RailwayHouse", "bitOf", "(II)I"⟩ "RailwayHouse", .methodLinkNest "RailwayHouse$Line" 61 ⟨"RailwayHouse", "bitOf", "(II)I"⟩ "RailwayHouse"]
def zf0 : List (String × String × String × Bool) := [("RailwayHouse$Channel", "ways", "LRailwayHouse$Ways;", true), ("RailwayHouse$Channel", "reports", "LRailwayHouse$Reports;", true), ("RailwayHouse$Channel", "phases", "[I", true), ("RailwayHouse$Channel", "counts", "[I", true), ("RailwayHouse$Channel", "given", "[I", true), ("RailwayHouse$Channel", "seen", "[I", true), ("RailwayHouse$Channel", "barred", "[Z", true), ("RailwayHouse$Channel", "shown", "[Z", true), ("RailwayHouse$Channel", "came", "J", false), ("RailwayHouse$Channel", "commands", "I", false), ("RailwayHouse$Channel", "row", "[I", false), ("RailwayHouse$Channel", "rowBefore", "[I", false), ("RailwayHouse$Channel", "flaw", "I", false), ("RailwayHouse$Channel", "voting", "Z", false)]
def zT0 : u_T := fun k => zf0.getD k ("", "", "", false)
def zL0 : List FieldType := [.object "RailwayHouse$Ways", .object "RailwayHouse$Reports", .array .int, .array .int, .array .int, .array .int, .array .boolean, .array .boolean, .long, .int, .array .int, .array .int, .int, .boolean]
def zy0 : Nat → FieldType := fun k => zL0.getD k .int
def zv0 : List zAV := [z_null, z_null, z_null, z_null, z_null, z_null, z_null, z_null, z_lng, .inl 0, z_null, z_null, .inl 0, .inl 0]
def zf1 : List (String × String × String × Bool) := [("RailwayHouse$Journeys", "table", "LRailwayHouse$Timetable;", true), ("RailwayHouse$Journeys", "options", "I", false), ("RailwayHouse$Journeys", "arrivals", "[I", true), ("RailwayHouse$Journeys", "legCounts", "[I", true), ("RailwayHouse$Journeys", "fares", "[I", true), ("RailwayHouse$Journeys", "codes", "[J", true), ("RailwayHouse$Journeys", "fareTo", "[I", false), ("RailwayHouse$Journeys", "codeTo", "[J", false), ("RailwayHouse$Journeys", "fareBefore", "[I", false), ("RailwayHouse$Journeys", "codeBefore", "[J", false)]
def zT1 : u_T := fun k => zf1.getD k ("", "", "", false)
def zL1 : List FieldType := [.object "RailwayHouse$Timetable", .int, .array .int, .array .int, .array .int, .array .long, .array .int, .array .long, .array .int, .array .long]
def zy1 : Nat → FieldType := fun k => zL1.getD k .int
def zv1 : List zAV := [z_null, .inl 0, z_null, z_null, z_null, z_null, z_null, z_null, z_null, z_null]
def zf2 : List (String × String × String × Bool) := [("RailwayHouse$Layout", "sections", "I", false), ("RailwayHouse$Layout", "signals", "I", false), ("RailwayHouse$Layout", "kinds", "[I", true), ("RailwayHouse$Layout", "lengths", "[I", true), ("RailwayHouse$Layout", "limits", "[I", true), ("RailwayHouse$Layout", "stations", "[I", true), ("RailwayHouse$Layout", "joints", "[I", true), ("RailwayHouse$Layout", "signalsAt", "[I", true), ("RailwayHouse$Layout", "signalEnds", "[I", true)]
def zT2 : u_T := fun k => zf2.getD k ("", "", "", false)
def zL2 : List FieldType := [.int, .int, .array .int, .array .int, .array .int, .array .int, .array .int, .array .int, .array .int]
def zy2 : Nat → FieldType := fun k => zL2.getD k .int
def zv2 : List zAV := [.inl 0, .inl 0, z_null, z_null, z_null, z_null, z_null, z_null, z_null]
def zf3 : List (String × String × String × Bool) := [("RailwayHouse$Line", "size", "I", false), ("RailwayHouse$Line", "ordered", "I", false), ("RailwayHouse$Line", "directions", "[I", true), ("RailwayHouse$Line", "readies", "[I", true), ("RailwayHouse$Line", "times", "[I", true), ("RailwayHouse$Line", "dues", "[I", true), ("RailwayHouse$Line", "weights", "[I", true), ("RailwayHouse$Line", "order", "[I", true), ("RailwayHouse$Line", "begins", "[I", true), ("RailwayHouse$Line", "bestOrder", "[I", true), ("RailwayHouse$Line", "bestBegins", "[I", true), ("RailwayHouse$Line", "bestEnds", "[I", true), ("RailwayHouse$Line", "bestCost", "I", false)]
def zT3 : u_T := fun k => zf3.getD k ("", "", "", false)
def zL3 : List FieldType := [.int, .int, .array .int, .array .int, .array .int, .array .int, .array .int, .array .int, .array .int, .array .int, .array .int, .array .int, .int]
def zy3 : Nat → FieldType := fun k => zL3.getD k .int
def zv3 : List zAV := [.inl 0, .inl 0, z_null, z_null, z_null, z_null, z_null, z_null, z_null, z_null, z_null, z_null, .inl 0]
def zf4 : List (String × String × String × Bool) := [("RailwayHouse$Reader", "tape", "[B", true), ("RailwayHouse$Reader", "made", "LRailwayHouse$Layout;", true), ("RailwayHouse$Reader", "length", "I", false), ("RailwayHouse$Reader", "flaw", "I", false), ("RailwayHouse$Reader", "flawAt", "I", false), ("RailwayHouse$Reader", "next", "I", false), ("RailwayHouse$Reader", "token", "I", false), ("RailwayHouse$Reader", "tokenAt", "I", false), ("RailwayHouse$Reader", "value", "I", false)]
def zT4 : u_T := fun k => zf4.getD k ("", "", "", false)
def zL4 : List FieldType := [.array .byte, .object "RailwayHouse$Layout", .int, .int, .int, .int, .int, .int, .int]
def zy4 : Nat → FieldType := fun k => zL4.getD k .int
def zv4 : List zAV := [z_null, z_null, .inl 0, .inl 0, .inl 0, .inl 0, .inl 0, .inl 0, .inl 0]
def zf5 : List (String × String × String × Bool) := [("RailwayHouse$Reports", "layout", "LRailwayHouse$Layout;", true), ("RailwayHouse$Reports", "sectionForce", "[I", true), ("RailwayHouse$Reports", "pointForce", "[I", true), ("RailwayHouse$Reports", "sectionReport", "[I", true), ("RailwayHouse$Reports", "pointReport", "[I", true), ("RailwayHouse$Reports", "sectionAge", "[I", true), ("RailwayHouse$Reports", "pointAge", "[I", true), ("RailwayHouse$Reports", "occupied", "I", false), ("RailwayHouse$Reports", "liesToZero", "I", false), ("RailwayHouse$Reports", "liesToOne", "I", false)]
def zT5 : u_T := fun k => zf5.getD k ("", "", "", false)
def zL5 : List FieldType := [.object "RailwayHouse$Layout", .array .int, .array .int, .array .int, .array .int, .array .int, .array .int, .int, .int, .int]
def zy5 : Nat → FieldType := fun k => zL5.getD k .int
def zv5 : List zAV := [z_null, z_null, z_null, z_null, z_null, z_null, z_null, .inl 0, .inl 0, .inl 0]
def zf6 : List (String × String × String × Bool) := [("RailwayHouse$Timetable", "changes", "[I", true), ("RailwayHouse$Timetable", "zones", "[I", true), ("RailwayHouse$Timetable", "runs", "I", false), ("RailwayHouse$Timetable", "seats", "[I", true), ("RailwayHouse$Timetable", "stops", "[I", true), ("RailwayHouse$Timetable", "stations", "[I", true), ("RailwayHouse$Timetable", "arrivals", "[I", true), ("RailwayHouse$Timetable", "departures", "[I", true), ("RailwayHouse$Timetable", "holds", "I", false), ("RailwayHouse$Timetable", "held", "I", false), ("RailwayHouse$Timetable", "holdRuns", "[I", true), ("RailwayHouse$Timetable", "holdFroms", "[I", true), ("RailwayHouse$Timetable", "holdTos", "[I", true), ("RailwayHouse$Timetable", "holdUntils", "[I", true), ("RailwayHouse$Timetable", "holdSeats", "[I", true), ("RailwayHouse$Timetable", "holdStates", "[I", true)]
def zT6 : u_T := fun k => zf6.getD k ("", "", "", false)
def zL6 : List FieldType := [.array .int, .array .int, .int, .array .int, .array .int, .array .int, .array .int, .array .int, .int, .int, .array .int, .array .int, .array .int, .array .int, .array .int, .array .int]
def zy6 : Nat → FieldType := fun k => zL6.getD k .int
def zv6 : List zAV := [z_null, z_null, .inl 0, z_null, z_null, z_null, z_null, z_null, .inl 0, .inl 0, z_null, z_null, z_null, z_null, z_null, z_null]
def zf7 : List (String × String × String × Bool) := [("RailwayHouse$Train", "length", "I", false), ("RailwayHouse$Train", "greatest", "I", false), ("RailwayHouse$Train", "brake", "I", false), ("RailwayHouse$Train", "number", "I", false), ("RailwayHouse$Train", "speed", "I", false), ("RailwayHouse$Train", "place", "I", false), ("RailwayHouse$Train", "exit", "I", false), ("RailwayHouse$Train", "passed", "I", false), ("RailwayHouse$Train", "standing", "Z", false), ("RailwayHouse$Train", "outside", "Z", false), ("RailwayHouse$Train", "gone", "Z", false), ("RailwayHouse$Train", "way", "[I", true), ("RailwayHouse$Train", "under", "I", false)]
def zT7 : u_T := fun k => zf7.getD k ("", "", "", false)
def zL7 : List FieldType := [.int, .int, .int, .int, .int, .int, .int, .int, .boolean, .boolean, .boolean, .array .int, .int]
def zy7 : Nat → FieldType := fun k => zL7.getD k .int
def zv7 : List zAV := [.inl 0, .inl 0, .inl 0, .inl 0, .inl 0, .inl 0, .inl 0, .inl 0, .inl 0, .inl 0, .inl 0, z_null, .inl 0]
def zf8 : List (String × String × String × Bool) := [("RailwayHouse$Vote", "ways", "LRailwayHouse$Ways;", true), ("RailwayHouse$Vote", "reports", "LRailwayHouse$Reports;", true), ("RailwayHouse$Vote", "channels", "[LRailwayHouse$Channel;", true), ("RailwayHouse$Vote", "disk", "[I", true), ("RailwayHouse$Vote", "onDisk", "I", false), ("RailwayHouse$Vote", "down", "Z", false), ("RailwayHouse$Vote", "powerless", "Z", false), ("RailwayHouse$Vote", "proceeding", "I", false), ("RailwayHouse$Vote", "commands", "I", false), ("RailwayHouse$Vote", "releases", "I", false)]
def zT8 : u_T := fun k => zf8.getD k ("", "", "", false)
def zL8 : List FieldType := [.object "RailwayHouse$Ways", .object "RailwayHouse$Reports", .array (.object "RailwayHouse$Channel"), .array .int, .int, .boolean, .boolean, .int, .int, .int]
def zy8 : Nat → FieldType := fun k => zL8.getD k .int
def zv8 : List zAV := [z_null, z_null, z_null, z_null, .inl 0, .inl 0, .inl 0, .inl 0, .inl 0, .inl 0]
def zf9 : List (String × String × String × Bool) := [("RailwayHouse$Ways", "layout", "LRailwayHouse$Layout;", true), ("RailwayHouse$Ways", "count", "I", false), ("RailwayHouse$Ways", "signals", "[I", true), ("RailwayHouse$Ways", "lasts", "[I", true), ("RailwayHouse$Ways", "overlaps", "[I", true), ("RailwayHouse$Ways", "sizes", "[I", true), ("RailwayHouse$Ways", "needCounts", "[I", true), ("RailwayHouse$Ways", "sections", "[I", true), ("RailwayHouse$Ways", "needs", "[I", true), ("RailwayHouse$Ways", "held", "[I", true), ("RailwayHouse$Ways", "boundToZero", "[I", true), ("RailwayHouse$Ways", "boundToOne", "[I", true), ("RailwayHouse$Ways", "overlapBits", "[I", true), ("RailwayHouse$Ways", "ins", "[I", true), ("RailwayHouse$Ways", "outs", "[I", true), ("RailwayHouse$Ways", "wanted", "[I", true), ("RailwayHouse$Ways", "reasons", "[I", true), ("RailwayHouse$Ways", "wantedCount", "I", false), ("RailwayHouse$Ways", "torn", "Z", false), ("RailwayHouse$Ways", "signal", "I", false)]
def zT9 : u_T := fun k => zf9.getD k ("", "", "", false)
def zL9 : List FieldType := [.object "RailwayHouse$Layout", .int, .array .int, .array .int, .array .int, .array .int, .array .int, .array .int, .array .int, .array .int, .array .int, .array .int, .array .int, .array .int, .array .int, .array .int, .array .int, .int, .boolean, .int]
def zy9 : Nat → FieldType := fun k => zL9.getD k .int
def zv9 : List zAV := [z_null, .inl 0, z_null, z_null, z_null, z_null, z_null, z_null, z_null, z_null, z_null, z_null, z_null, z_null, z_null, z_null, z_null, .inl 0, .inl 0, .inl 0]
def zf10 : List (String × String × String × Bool) := [("RailwayHouse$Yard", "layout", "LRailwayHouse$Layout;", true), ("RailwayHouse$Yard", "lies", "[I", true), ("RailwayHouse$Yard", "goals", "[I", true), ("RailwayHouse$Yard", "left", "[I", true), ("RailwayHouse$Yard", "blocked", "I", false), ("RailwayHouse$Yard", "trains", "[LRailwayHouse$Train;", true), ("RailwayHouse$Yard", "came", "I", false), ("RailwayHouse$Yard", "present", "I", false), ("RailwayHouse$Yard", "swept", "I", false), ("RailwayHouse$Yard", "partEnds", "[I", true), ("RailwayHouse$Yard", "partLimits", "[I", true), ("RailwayHouse$Yard", "parts", "I", false), ("RailwayHouse$Yard", "leaveNow", "I", false)]
def zT10 : u_T := fun k => zf10.getD k ("", "", "", false)
def zL10 : List FieldType := [.object "RailwayHouse$Layout", .array .int, .array .int, .array .int, .int, .array (.object "RailwayHouse$Train"), .int, .int, .int, .array .int, .array .int, .int, .int]
def zy10 : Nat → FieldType := fun k => zL10.getD k .int
def zv10 : List zAV := [z_null, z_null, z_null, z_null, .inl 0, z_null, .inl 0, .inl 0, .inl 0, z_null, z_null, .inl 0, .inl 0]
def zf11 : List (String × String × String × Bool) := [("RailwayHouse", "reader", "LRailwayHouse$Reader;", true), ("RailwayHouse", "layout", "LRailwayHouse$Layout;", true), ("RailwayHouse", "ways", "LRailwayHouse$Ways;", true), ("RailwayHouse", "reports", "LRailwayHouse$Reports;", true), ("RailwayHouse", "votes", "LRailwayHouse$Vote;", true), ("RailwayHouse", "yard", "LRailwayHouse$Yard;", true), ("RailwayHouse", "timetable", "LRailwayHouse$Timetable;", true), ("RailwayHouse", "journeys", "LRailwayHouse$Journeys;", true), ("RailwayHouse", "single", "LRailwayHouse$Line;", true), ("RailwayHouse", "berths", "[I", true), ("RailwayHouse", "lost", "I", false), ("RailwayHouse", "time", "I", false)]
def zT11 : u_T := fun k => zf11.getD k ("", "", "", false)
def zL11 : List FieldType := [.object "RailwayHouse$Reader", .object "RailwayHouse$Layout", .object "RailwayHouse$Ways", .object "RailwayHouse$Reports", .object "RailwayHouse$Vote", .object "RailwayHouse$Yard", .object "RailwayHouse$Timetable", .object "RailwayHouse$Journeys", .object "RailwayHouse$Line", .array .int, .int, .int]
def zy11 : Nat → FieldType := fun k => zL11.getD k .int
def zv11 : List zAV := [z_null, z_null, z_null, z_null, z_null, z_null, z_null, z_null, z_null, z_null, .inl 0, .inl 0]
def zf12 : List (String × String × String × Bool) := [("RailwayHouseModel", "tape", "[B", true), ("RailwayHouseModel", "taped", "I", false), ("RailwayHouseModel", "textSize", "I", false), ("RailwayHouseModel", "at", "I", false), ("RailwayHouseModel", "token", "I", false), ("RailwayHouseModel", "tokenAt", "I", false), ("RailwayHouseModel", "tokenNumber", "I", false), ("RailwayHouseModel", "tokenWord", "J", false), ("RailwayHouseModel", "faultNumber", "I", false), ("RailwayHouseModel", "faultPlace", "I", false), ("RailwayHouseModel", "newSections", "I", false), ("RailwayHouseModel", "newPoint", "[Z", true), ("RailwayHouseModel", "newLength", "[I", true), ("RailwayHouseModel", "newLimit", "[I", true), ("RailwayHouseModel", "newStation", "[I", true), ("RailwayHouseModel", "newJoin", "[I", true), ("RailwayHouseModel", "newSignalAt", "[I", true), ("RailwayHouseModel", "newSignals", "I", false), ("RailwayHouseModel", "newSignalSection", "[I", true), ("RailwayHouseModel", "newSignalEnd", "[I", true), ("RailwayHouseModel", "sections", "I", false), ("RailwayHouseModel", "isPoint", "[Z", true), ("RailwayHouseModel", "length", "[I", true), ("RailwayHouseModel", "limit", "[I", true), ("RailwayHouseModel", "stationOf", "[I", true), ("RailwayHouseModel", "joined", "[I", true), ("RailwayHouseModel", "signalAt", "[I", true), ("RailwayHouseModel", "signals", "I", false), ("RailwayHouseModel", "signalSection", "[I", true), ("RailwayHouseModel", "signalEnd", "[I", true), ("RailwayHouseModel", "hasLayout", "Z", false), ("RailwayHouseModel", "taken", "I", false), ("RailwayHouseModel", "routes", "I", false), ("RailwayHouseModel", "rSignal", "[I", true), ("RailwayHouseModel", "rLast", "[I", true), ("RailwayHouseModel", "rMany", "[I", true), ("RailwayHouseModel", "rSection", "[I", true), ("RailwayHouseModel", "rOverlap", "[I", true), ("RailwayHouseModel", "rNeeds", "[I", true), ("RailwayHouseModel", "needPoint", "[I", true), ("RailwayHouseModel", "needLie", "[I", true), ("RailwayHouseModel", "needBy", "[I", true), ("RailwayHouseModel", "wSection", "[I", true), ("RailwayHouseModel", "wIn", "[I", true), ("RailwayHouseModel", "wOut", "[I", true), ("RailwayHouseModel", "wMany", "I", false), ("RailwayHouseModel", "wLast", "I", false), ("RailwayHouseModel", "wOverlap", "I", false), ("RailwayHouseModel", "wOverlapIn", "I", false), ("RailwayHouseModel", "choice", "[I", true), ("RailwayHouseModel", "branches", "I", false), ("RailwayHouseModel", "wNeeds", "I", false), ("RailwayHouseModel", "wPoint", "[I", true), ("RailwayHouseModel", "wLie", "[I", true), ("RailwayHouseModel", "wBy", "[I", true), ("RailwayHouseModel", "seenSection", "[I", true), ("RailwayHouseModel", "sectionAge", "[I", true), ("RailwayHouseModel", "seenPoint", "[I", true), ("RailwayHouseModel", "pointAge", "[I", true), ("RailwayHouseModel", "forcedSection", "[I", true), ("RailwayHouseModel", "forcedPoint", "[I", true), ("RailwayHouseModel", "phase", "[I", true), ("RailwayHouseModel", "counted", "[I", true), ("RailwayHouseModel", "barred", "[Z", true), ("RailwayHouseModel", "wasShown", "[Z", true), ("RailwayHouseModel", "given", "[I", true), ("RailwayHouseModel", "seen", "[I", true), ("RailwayHouseModel", "came", "[Z", true), ("RailwayHouseModel", "commands", "[I", true), ("RailwayHouseModel", "rowSignals", "[I", true), ("RailwayHouseModel", "rowCommands", "[I", true), ("RailwayHouseModel", "oldSignals", "[I", true), ("RailwayHouseModel", "oldCommands", "[I", true), ("RailwayHouseModel", "rowRoute", "[I", true), ("RailwayHouseModel", "oldRoute", "[I", true), ("RailwayHouseModel", "inVote", "[Z", true), ("RailwayHouseModel", "faults", "[I", true), ("RailwayHouseModel", "isDown", "Z", false), ("RailwayHouseModel", "isCut", "Z", false), ("RailwayHouseModel", "shown", "I", false), ("RailwayHouseModel", "voted", "I", false), ("RailwayHouseModel", "says", "[J", true), ("RailwayHouseModel", "releases", "I", false), ("RailwayHouseModel", "lies", "[I", true), ("RailwayHouseModel", "goesTo", "[I", true), ("RailwayHouseModel", "goesFor", "[I", true), ("RailwayHouseModel", "blocked", "[Z", true), ("RailwayHouseModel", "trains", "I", false), ("RailwayHouseModel", "inYard", "I", false), ("RailwayHouseModel", "tPlace", "[I", true), ("RailwayHouseModel", "tLength", "[I", true), ("RailwayHouseModel", "tSpeed", "[I", true), ("RailwayHouseModel", "tGreatest", "[I", true), ("RailwayHouseModel", "tBrake", "[I", true), ("RailwayHouseModel", "tNumber", "[I", true), ("RailwayHouseModel", "tStand", "[Z", true), ("RailwayHouseModel", "tPassed", "[I", true), ("RailwayHouseModel", "tOutside", "[I", true), ("RailwayHouseModel", "tFront", "[I", true), ("RailwayHouseModel", "pathMany", "[I", true), ("RailwayHouseModel", "pathSection", "[I", true), ("RailwayHouseModel", "pathOut", "[I", true), ("RailwayHouseModel", "placeTaken", "[Z", true), ("RailwayHouseModel", "touched", "[Z", true), ("RailwayHouseModel", "time", "I", false), ("RailwayHouseModel", "berth", "[I", true), ("RailwayHouseModel", "lost", "I", false), ("RailwayHouseModel", "disk", "[I", true), ("RailwayHouseModel", "diskGiven", "[I", true), ("RailwayHouseModel", "diskSeen", "[I", true), ("RailwayHouseModel", "onDisk", "I", false), ("RailwayHouseModel", "change", "[I", true), ("RailwayHouseModel", "zone", "[I", true), ("RailwayHouseModel", "runs", "I", false), ("RailwayHouseModel", "seats", "[I", true), ("RailwayHouseModel", "stops", "[I", true), ("RailwayHouseModel", "stopStation", "[I", true), ("RailwayHouseModel", "arrives", "[I", true), ("RailwayHouseModel", "departs", "[I", true), ("RailwayHouseModel", "bestFare", "[I", true), ("RailwayHouseModel", "bestLegs", "[J", true), ("RailwayHouseModel", "options", "I", false), ("RailwayHouseModel", "optionArrival", "[I", true), ("RailwayHouseModel", "optionLegs", "[I", true), ("RailwayHouseModel", "optionFare", "[I", true), ("RailwayHouseModel", "optionRow", "[J", true), ("RailwayHouseModel", "holds", "I", false), ("RailwayHouseModel", "holdRun", "[I", true), ("RailwayHouseModel", "holdFrom", "[I", true), ("RailwayHouseModel", "holdTo", "[I", true), ("RailwayHouseModel", "holdSeat", "[I", true), ("RailwayHouseModel", "holdUntil", "[I", true), ("RailwayHouseModel", "holdState", "[I", true), ("RailwayHouseModel", "lines", "I", false), ("RailwayHouseModel", "lineWay", "[I", true), ("RailwayHouseModel", "lineReady", "[I", true), ("RailwayHouseModel", "lineTakes", "[I", true), ("RailwayHouseModel", "lineDue", "[I", true), ("RailwayHouseModel", "lineWeight", "[I", true), ("RailwayHouseModel", "perm", "[I", true), ("RailwayHouseModel", "begins", "[I", true), ("RailwayHouseModel", "endsAt", "[I", true), ("RailwayHouseModel", "bests", "I", false), ("RailwayHouseModel", "best", "[I", true), ("RailwayHouseModel", "bestBegins", "[I", true), ("RailwayHouseModel", "bestEnds", "[I", true)]
def zT12 : u_T := fun k => zf12.getD k ("", "", "", false)
def zL12 : List FieldType := [.array .byte, .int, .int, .int, .int, .int, .int, .long, .int, .int, .int, .array .boolean, .array .int, .array .int, .array .int, .array .int, .array .int, .int, .array .int, .array .int, .int, .array .boolean, .array .int, .array .int, .array .int, .array .int, .array .int, .int, .array .int, .array .int, .boolean, .int, .int, .array .int, .array .int, .array .int, .array .int, .array .int, .array .int, .array .int, .array .int, .array .int, .array .int, .array .int, .array .int, .int, .int, .int, .int, .array .int, .int, .int, .array .int, .array .int, .array .int, .array .int, .array .int, .array .int, .array .int, .array .int, .array .int, .array .int, .array .int, .array .boolean, .array .boolean, .array .int, .array .int, .array .boolean, .array .int, .array .int, .array .int, .array .int, .array .int, .array .int, .array .int, .array .boolean, .array .int, .boolean, .boolean, .int, .int, .array .long, .int, .array .int, .array .int, .array .int, .array .boolean, .int, .int, .array .int, .array .int, .array .int, .array .int, .array .int, .array .int, .array .boolean, .array .int, .array .int, .array .int, .array .int, .array .int, .array .int, .array .boolean, .array .boolean, .int, .array .int, .int, .array .int, .array .int, .array .int, .int, .array .int, .array .int, .int, .array .int, .array .int, .array .int, .array .int, .array .int, .array .int, .array .long, .int, .array .int, .array .int, .array .int, .array .long, .int, .array .int, .array .int, .array .int, .array .int, .array .int, .array .int, .int, .array .int, .array .int, .array .int, .array .int, .array .int, .array .int, .array .int, .array .int, .int, .array .int, .array .int, .array .int]
def zy12 : Nat → FieldType := fun k => zL12.getD k .int
def zv12 : List zAV := [z_null, .inl 0, .inl 0, .inl 0, .inl 0, .inl 0, .inl 0, z_lng, .inl 0, .inl 0, .inl 0, z_null, z_null, z_null, z_null, z_null, z_null, .inl 0, z_null, z_null, .inl 0, z_null, z_null, z_null, z_null, z_null, z_null, .inl 0, z_null, z_null, .inl 0, .inl 0, .inl 0, z_null, z_null, z_null, z_null, z_null, z_null, z_null, z_null, z_null, z_null, z_null, z_null, .inl 0, .inl 0, .inl 0, .inl 0, z_null, .inl 0, .inl 0, z_null, z_null, z_null, z_null, z_null, z_null, z_null, z_null, z_null, z_null, z_null, z_null, z_null, z_null, z_null, z_null, z_null, z_null, z_null, z_null, z_null, z_null, z_null, z_null, z_null, .inl 0, .inl 0, .inl 0, .inl 0, z_null, .inl 0, z_null, z_null, z_null, z_null, .inl 0, .inl 0, z_null, z_null, z_null, z_null, z_null, z_null, z_null, z_null, z_null, z_null, z_null, z_null, z_null, z_null, z_null, .inl 0, z_null, .inl 0, z_null, z_null, z_null, .inl 0, z_null, z_null, .inl 0, z_null, z_null, z_null, z_null, z_null, z_null, z_null, .inl 0, z_null, z_null, z_null, z_null, .inl 0, z_null, z_null, z_null, z_null, z_null, z_null, .inl 0, z_null, z_null, z_null, z_null, z_null, z_null, z_null, z_null, .inl 0, z_null, z_null, z_null]
def zcls : List vw_C := [("RailwayHouse$Channel", zT0, 14), ("RailwayHouse$Journeys", zT1, 10), ("RailwayHouse$Layout", zT2, 9), ("RailwayHouse$Line", zT3, 13), ("RailwayHouse$Reader", zT4, 9), ("RailwayHouse$Reports", zT5, 10), ("RailwayHouse$Timetable", zT6, 16), ("RailwayHouse$Train", zT7, 13), ("RailwayHouse$Vote", zT8, 10), ("RailwayHouse$Ways", zT9, 20), ("RailwayHouse$Yard", zT10, 13), ("RailwayHouse", zT11, 12), ("RailwayHouseModel", zT12, 146)]
def zzty : List (Nat → FieldType) := [zy0, zy1, zy2, zy3, zy4, zy5, zy6, zy7, zy8, zy9, zy10, zy11, zy12]
def zzdv : List (List zAV) := [zv0, zv1, zv2, zv3, zv4, zv5, zv6, zv7, zv8, zv9, zv10, zv11, zv12]
def zm0 : zMR := (⟨"RailwayHouse$Reports", "forget", "()V"⟩, prog_7_method_3_code, 2, none, ⟨1, 0, 0, 20⟩, 5,
  [(0, .iconst 0, 0, 0, 0), (1, .istore_n 1, 0, 0, 0), (2, .iload_n 1, 0, 0, 0), (3, .bipush 24, 0, 0, 0), (5, .if_icmp .ge 37, 42, 0, 0), (8, .aload_n 0, 0, 0, 0), (9, .getfield 18, 5, 3, 1220), (12, .iload_n 1, 0, 0, 0), (13, .iconst 3, 0, 0, 0), (14, .iastore, 0, 0, 0), (15, .aload_n 0, 0, 0, 0), (16, .getfield 21, 5, 4, 1221), (19, .iload_n 1, 0, 0, 0), (20, .iconst 3, 0, 0, 0), (21, .iastore, 0, 0, 0), (22, .aload_n 0, 0, 0, 0), (23, .getfield 24, 5, 5, 1222), (26, .iload_n 1, 0, 0, 0), (27, .iconst 0, 0, 0, 0), (28, .iastore, 0, 0, 0), (29, .aload_n 0, 0, 0, 0), (30, .getfield 27, 5, 6, 1223), (33, .iload_n 1, 0, 0, 0), (34, .iconst 0, 0, 0, 0), (35, .iastore, 0, 0, 0), (36, .iinc 1 1, 0, 0, 0), (39, .goto (-37), 2, 0, 0), (42, .aload_n 0, 0, 0, 0), (43, .iconst (-1), 0, 0, 0), (44, .putfield 30, 5, 7, 1224), (47, .aload_n 0, 0, 0, 0), (48, .iconst 0, 0, 0, 0), (49, .putfield 34, 5, 8, 1228), (52, .aload_n 0, 0, 0, 0), (53, .iconst 0, 0, 0, 0), (54, .putfield 37, 5, 9, 1230), (57, .return_, 0, 0, 0)])
def zm1 : zMR := (⟨"RailwayHouse$Reports", "freeAll", "()V"⟩, prog_7_method_2_code, 2, none, ⟨1, 0, 0, 20⟩, 5,
  [(0, .iconst 0, 0, 0, 0), (1, .istore_n 1, 0, 0, 0), (2, .iload_n 1, 0, 0, 0), (3, .bipush 24, 0, 0, 0), (5, .if_icmp .ge 23, 28, 0, 0), (8, .aload_n 0, 0, 0, 0), (9, .getfield 9, 5, 1, 1218), (12, .iload_n 1, 0, 0, 0), (13, .iconst (-1), 0, 0, 0), (14, .iastore, 0, 0, 0), (15, .aload_n 0, 0, 0, 0), (16, .getfield 15, 5, 2, 1219), (19, .iload_n 1, 0, 0, 0), (20, .iconst (-1), 0, 0, 0), (21, .iastore, 0, 0, 0), (22, .iinc 1 1, 0, 0, 0), (25, .goto (-23), 2, 0, 0), (28, .return_, 0, 0, 0)])
def zm2 : zMR := (⟨"RailwayHouse$Channel", "endRoute", "(I)V"⟩, prog_2_method_17_code, 2, none, ⟨1, 0, 0, 20⟩, 0,
  [(0, .aload_n 0, 0, 0, 0), (1, .getfield 9, 0, 2, 2028), (4, .iload_n 1, 0, 0, 0), (5, .iconst 0, 0, 0, 0), (6, .iastore, 0, 0, 0), (7, .aload_n 0, 0, 0, 0), (8, .getfield 15, 0, 3, 2029), (11, .iload_n 1, 0, 0, 0), (12, .iconst 0, 0, 0, 0), (13, .iastore, 0, 0, 0), (14, .aload_n 0, 0, 0, 0), (15, .getfield 18, 0, 4, 2030), (18, .iload_n 1, 0, 0, 0), (19, .iconst 0, 0, 0, 0), (20, .iastore, 0, 0, 0), (21, .aload_n 0, 0, 0, 0), (22, .getfield 21, 0, 5, 2031), (25, .iload_n 1, 0, 0, 0), (26, .iconst 0, 0, 0, 0), (27, .iastore, 0, 0, 0), (28, .aload_n 0, 0, 0, 0), (29, .getfield 24, 0, 6, 2032), (32, .iload_n 1, 0, 0, 0), (33, .iconst 0, 0, 0, 0), (34, .bastore, 0, 0, 0), (35, .aload_n 0, 0, 0, 0), (36, .getfield 28, 0, 7, 2033), (39, .iload_n 1, 0, 0, 0), (40, .iconst 0, 0, 0, 0), (41, .bastore, 0, 0, 0), (42, .return_, 0, 0, 0)])
def zm3 : zMR := (⟨"RailwayHouse$Channel", "writeRow", "([II)V"⟩, prog_2_method_34_code, 4, none, ⟨1, 0, 0, 20⟩, 0,
  [(0, .aload_n 1, 0, 0, 0), (1, .iconst 0, 0, 0, 0), (2, .iload_n 2, 0, 0, 0), (3, .iconst 1, 0, 0, 0), (4, .aload_n 0, 0, 0, 0), (5, .getfield 52, 0, 0, 2026), (8, .getfield 197, 9, 0, 1134), (11, .getfield 201, 2, 1, 1050), (14, .ishl, 0, 0, 0), (15, .iconst 1, 0, 0, 0), (16, .isub, 0, 0, 0), (17, .iand, 0, 0, 0), (18, .iastore, 0, 0, 0), (19, .aload_n 1, 0, 0, 0), (20, .iconst 1, 0, 0, 0), (21, .aload_n 0, 0, 0, 0), (22, .getfield 35, 0, 9, 2035), (25, .iastore, 0, 0, 0), (26, .iconst 0, 0, 0, 0), (27, .istore_n 3, 0, 0, 0), (28, .iload_n 3, 0, 0, 0), (29, .aload_n 0, 0, 0, 0), (30, .getfield 52, 0, 0, 2026), (33, .getfield 99, 9, 1, 1137), (36, .if_icmp .ge 19, 55, 0, 0), (55, .return_, 0, 0, 0)])
def zm4 : zMR := (⟨"RailwayHouse$Channel", "keepFirstRow", "()V"⟩, prog_2_method_3_code, 1, none, ⟨2, 0, 0, 43⟩, 0,
  [(0, .aload_n 0, 0, 0, 0), (1, .aload_n 0, 0, 0, 0), (2, .getfield 39, 0, 10, 2036), (5, .iconst 0, 0, 0, 0), (6, .invokevirtual 67, 3, 2, 3120), (9, .return_, 0, 0, 0)])
def zm5 : zMR := (⟨"RailwayHouse$Channel", "begin", "(I)V"⟩, prog_2_method_2_code, 3, none, ⟨3, 0, 0, 63⟩, 0,
  [(0, .aload_n 0, 0, 0, 0), (1, .iconst 0, 0, 0, 0), (2, .putfield 45, 0, 12, 2038), (5, .aload_n 0, 0, 0, 0), (6, .iconst 1, 0, 0, 0), (7, .putfield 48, 0, 13, 2041), (10, .aload_n 0, 0, 0, 0), (11, .iload_n 1, 0, 0, 0), (12, .putfield 35, 0, 9, 2035), (15, .iconst 0, 0, 0, 0), (16, .istore_n 2, 0, 0, 0), (17, .iload_n 2, 0, 0, 0), (18, .bipush 40, 0, 0, 0), (20, .if_icmp .ge 14, 34, 0, 0), (23, .aload_n 0, 0, 0, 0), (24, .iload_n 2, 0, 0, 0), (25, .invokevirtual 60, 2, 1, 3112), (28, .iinc 2 1, 0, 0, 0), (31, .goto (-14), 17, 0, 0), (34, .aload_n 0, 0, 0, 0), (35, .lconst 0, 0, 0, 0), (36, .putfield 31, 0, 8, 2034), (39, .aload_n 0, 0, 0, 0), (40, .invokevirtual 64, 4, 0, 3116), (43, .return_, 0, 0, 0)])
def zm6 : zMR := (⟨"RailwayHouse$Vote", "beginChannels", "(I)V"⟩, prog_10_method_3_code, 3, none, ⟨4, 0, 0, 85⟩, 8,
  [(0, .aload_n 0, 0, 0, 0), (1, .iconst 0, 0, 0, 0), (2, .putfield 25, 8, 5, 2080), (5, .aload_n 0, 0, 0, 0), (6, .iconst 0, 0, 0, 0), (7, .putfield 32, 8, 7, 2084), (10, .aload_n 0, 0, 0, 0), (11, .iload_n 1, 0, 0, 0), (12, .putfield 35, 8, 8, 2086), (15, .iconst 0, 0, 0, 0), (16, .istore_n 2, 0, 0, 0), (17, .iload_n 2, 0, 0, 0), (18, .iconst 3, 0, 0, 0), (19, .if_icmp .ge 19, 38, 0, 0), (22, .aload_n 0, 0, 0, 0), (23, .getfield 11, 8, 2, 2076), (26, .iload_n 2, 0, 0, 0), (27, .aaload, 0, 0, 0), (28, .iload_n 1, 0, 0, 0), (29, .invokevirtual 56, 5, 1, 3108), (32, .iinc 2 1, 0, 0, 0), (35, .goto (-18), 17, 0, 0), (38, .return_, 0, 0, 0)])
def zm7 : zMR := (⟨"RailwayHouse$Vote", "begin", "()V"⟩, prog_10_method_2_code, 2, none, ⟨5, 0, 0, 107⟩, 8,
  [(0, .aload_n 0, 0, 0, 0), (1, .iconst 0, 0, 0, 0), (2, .invokevirtual 52, 6, 1, 3104), (5, .aload_n 0, 0, 0, 0), (6, .iconst 0, 0, 0, 0), (7, .putfield 29, 8, 6, 2082), (10, .aload_n 0, 0, 0, 0), (11, .iconst 0, 0, 0, 0), (12, .putfield 38, 8, 9, 2088), (15, .aload_n 0, 0, 0, 0), (16, .iconst 0, 0, 0, 0), (17, .putfield 21, 8, 4, 2079), (20, .iconst 0, 0, 0, 0), (21, .istore_n 1, 0, 0, 0), (22, .iload_n 1, 0, 0, 0), (23, .bipush 40, 0, 0, 0), (25, .if_icmp .ge 16, 41, 0, 0), (28, .aload_n 0, 0, 0, 0), (29, .getfield 17, 8, 3, 2078), (32, .iload_n 1, 0, 0, 0), (33, .iconst 0, 0, 0, 0), (34, .iastore, 0, 0, 0), (35, .iinc 1 1, 0, 0, 0), (38, .goto (-16), 22, 0, 0), (41, .return_, 0, 0, 0)])
def zm8 : zMR := (⟨"RailwayHouse$Yard", "begin", "()V"⟩, prog_12_method_2_code, 2, none, ⟨1, 0, 0, 20⟩, 10,
  [(0, .iconst 0, 0, 0, 0), (1, .istore_n 1, 0, 0, 0), (2, .iload_n 1, 0, 0, 0), (3, .bipush 24, 0, 0, 0), (5, .if_icmp .ge 30, 35, 0, 0), (8, .aload_n 0, 0, 0, 0), (9, .getfield 13, 10, 1, 2120), (12, .iload_n 1, 0, 0, 0), (13, .iconst 0, 0, 0, 0), (14, .iastore, 0, 0, 0), (15, .aload_n 0, 0, 0, 0), (16, .getfield 17, 10, 2, 2122), (19, .iload_n 1, 0, 0, 0), (20, .iconst 0, 0, 0, 0), (21, .iastore, 0, 0, 0), (22, .aload_n 0, 0, 0, 0), (23, .getfield 20, 10, 3, 2123), (26, .iload_n 1, 0, 0, 0), (27, .iconst 0, 0, 0, 0), (28, .iastore, 0, 0, 0), (29, .iinc 1 1, 0, 0, 0), (32, .goto (-30), 2, 0, 0), (35, .aload_n 0, 0, 0, 0), (36, .iconst 0, 0, 0, 0), (37, .putfield 23, 10, 4, 2124), (40, .aload_n 0, 0, 0, 0), (41, .iconst 0, 0, 0, 0), (42, .putfield 31, 10, 6, 2127), (45, .aload_n 0, 0, 0, 0), (46, .iconst 0, 0, 0, 0), (47, .putfield 34, 10, 7, 2129), (50, .aload_n 0, 0, 0, 0), (51, .iconst 0, 0, 0, 0), (52, .putfield 37, 10, 8, 2131), (55, .return_, 0, 0, 0)])
def zm9 : zMR := (⟨"RailwayHouse", "beginYard", "()V"⟩, prog_1_method_39_code, 2, none, ⟨6, 0, 0, 128⟩, 11,
  [(0, .aload_n 0, 0, 0, 0), (1, .getfield 35, 11, 3, 3135), (4, .invokevirtual 332, 0, 0, 3092), (7, .aload_n 0, 0, 0, 0), (8, .getfield 35, 11, 3, 3135), (11, .invokevirtual 335, 1, 0, 3096), (14, .aload_n 0, 0, 0, 0), (15, .getfield 44, 11, 4, 3136), (18, .invokevirtual 338, 7, 0, 3100), (21, .aload_n 0, 0, 0, 0), (22, .getfield 51, 11, 5, 3137), (25, .invokevirtual 341, 8, 0, 3128), (28, .iconst 0, 0, 0, 0), (29, .istore_n 1, 0, 0, 0), (30, .iload_n 1, 0, 0, 0), (31, .bipush 16, 0, 0, 0), (33, .if_icmp .ge 16, 49, 0, 0), (36, .aload_n 0, 0, 0, 0), (37, .getfield 78, 11, 9, 3141), (40, .iload_n 1, 0, 0, 0), (41, .iconst 0, 0, 0, 0), (42, .iastore, 0, 0, 0), (43, .iinc 1 1, 0, 0, 0), (46, .goto (-16), 30, 0, 0), (49, .aload_n 0, 0, 0, 0), (50, .iconst 0, 0, 0, 0), (51, .putfield 329, 11, 10, 3142), (54, .aload_n 0, 0, 0, 0), (55, .iconst 0, 0, 0, 0), (56, .putfield 286, 11, 11, 3143), (59, .return_, 0, 0, 0)])
def zm10 : zMR := (⟨"RailwayHouse$Journeys", "<init>", "(LRailwayHouse$Timetable;)V"⟩, prog_3_method_1_code, 2, none, ⟨1, 8, 976, 20⟩, 1,
  [(0, .aload_n 0, 0, 0, 0), (1, .invokespecial 3, 0, 50, 3003), (4, .aload_n 0, 0, 0, 0), (5, .iconst 0, 0, 0, 0), (6, .putfield 9, 1, 1, 3005), (9, .aload_n 0, 0, 0, 0), (10, .sipush 148, 0, 0, 0), (13, .newarray .int, 0, 0, 0), (15, .putfield 15, 1, 2, 3007), (18, .aload_n 0, 0, 0, 0), (19, .sipush 148, 0, 0, 0), (22, .newarray .int, 0, 0, 0), (24, .putfield 19, 1, 3, 3009), (27, .aload_n 0, 0, 0, 0), (28, .sipush 148, 0, 0, 0), (31, .newarray .int, 0, 0, 0), (33, .putfield 22, 1, 4, 3011), (36, .aload_n 0, 0, 0, 0), (37, .sipush 148, 0, 0, 0), (40, .newarray .long, 0, 0, 0), (42, .putfield 25, 1, 5, 3013), (45, .aload_n 0, 0, 0, 0), (46, .bipush 96, 0, 0, 0), (48, .newarray .int, 0, 0, 0), (50, .putfield 29, 1, 6, 3014), (53, .aload_n 0, 0, 0, 0), (54, .bipush 96, 0, 0, 0), (56, .newarray .long, 0, 0, 0), (58, .putfield 32, 1, 7, 3015), (61, .aload_n 0, 0, 0, 0), (62, .bipush 96, 0, 0, 0), (64, .newarray .int, 0, 0, 0), (66, .putfield 35, 1, 8, 3016), (69, .aload_n 0, 0, 0, 0), (70, .bipush 96, 0, 0, 0), (72, .newarray .long, 0, 0, 0), (74, .putfield 38, 1, 9, 3017), (77, .aload_n 0, 0, 0, 0), (78, .aload_n 1, 0, 0, 0), (79, .putfield 41, 1, 0, 3004), (82, .return_, 0, 0, 0)])
def zm11 : zMR := (⟨"RailwayHouse$Layout", "<init>", "()V"⟩, prog_4_method_1_code, 1, none, ⟨1, 7, 256, 20⟩, 2,
  [(0, .aload_n 0, 0, 0, 0), (1, .invokespecial 3, 0, 50, 1041), (4, .aload_n 0, 0, 0, 0), (5, .bipush 24, 0, 0, 0), (7, .newarray .int, 0, 0, 0), (9, .putfield 9, 2, 2, 1052), (12, .aload_n 0, 0, 0, 0), (13, .bipush 24, 0, 0, 0), (15, .newarray .int, 0, 0, 0), (17, .putfield 15, 2, 3, 1053), (20, .aload_n 0, 0, 0, 0), (21, .bipush 24, 0, 0, 0), (23, .newarray .int, 0, 0, 0), (25, .putfield 18, 2, 4, 1056), (28, .aload_n 0, 0, 0, 0), (29, .bipush 24, 0, 0, 0), (31, .newarray .int, 0, 0, 0), (33, .putfield 21, 2, 5, 1058), (36, .aload_n 0, 0, 0, 0), (37, .bipush 72, 0, 0, 0), (39, .newarray .int, 0, 0, 0), (41, .putfield 24, 2, 6, 1060), (44, .aload_n 0, 0, 0, 0), (45, .bipush 72, 0, 0, 0), (47, .newarray .int, 0, 0, 0), (49, .putfield 27, 2, 7, 1064), (52, .aload_n 0, 0, 0, 0), (53, .bipush 16, 0, 0, 0), (55, .newarray .int, 0, 0, 0), (57, .putfield 30, 2, 8, 1068), (60, .return_, 0, 0, 0)])
def zm12 : zMR := (⟨"RailwayHouse$Line", "<init>", "()V"⟩, prog_5_method_1_code, 1, none, ⟨1, 10, 70, 20⟩, 3,
  [(0, .aload_n 0, 0, 0, 0), (1, .invokespecial 1, 0, 50, 3045), (4, .aload_n 0, 0, 0, 0), (5, .iconst 0, 0, 0, 0), (6, .putfield 7, 3, 0, 3046), (9, .aload_n 0, 0, 0, 0), (10, .iconst 0, 0, 0, 0), (11, .putfield 13, 3, 1, 3048), (14, .aload_n 0, 0, 0, 0), (15, .bipush 7, 0, 0, 0), (17, .newarray .int, 0, 0, 0), (19, .putfield 16, 3, 2, 3050), (22, .aload_n 0, 0, 0, 0), (23, .bipush 7, 0, 0, 0), (25, .newarray .int, 0, 0, 0), (27, .putfield 20, 3, 3, 3051), (30, .aload_n 0, 0, 0, 0), (31, .bipush 7, 0, 0, 0), (33, .newarray .int, 0, 0, 0), (35, .putfield 23, 3, 4, 3052), (38, .aload_n 0, 0, 0, 0), (39, .bipush 7, 0, 0, 0), (41, .newarray .int, 0, 0, 0), (43, .putfield 26, 3, 5, 3053), (46, .aload_n 0, 0, 0, 0), (47, .bipush 7, 0, 0, 0), (49, .newarray .int, 0, 0, 0), (51, .putfield 29, 3, 6, 3054), (54, .aload_n 0, 0, 0, 0), (55, .bipush 7, 0, 0, 0), (57, .newarray .int, 0, 0, 0), (59, .putfield 32, 3, 7, 3055), (62, .aload_n 0, 0, 0, 0), (63, .bipush 7, 0, 0, 0), (65, .newarray .int, 0, 0, 0), (67, .putfield 35, 3, 8, 3056), (70, .aload_n 0, 0, 0, 0), (71, .bipush 7, 0, 0, 0), (73, .newarray .int, 0, 0, 0), (75, .putfield 38, 3, 9, 3057), (78, .aload_n 0, 0, 0, 0), (79, .bipush 7, 0, 0, 0), (81, .newarray .int, 0, 0, 0), (83, .putfield 41, 3, 10, 3058), (86, .aload_n 0, 0, 0, 0), (87, .bipush 7, 0, 0, 0), (89, .newarray .int, 0, 0, 0), (91, .putfield 44, 3, 11, 3059), (94, .aload_n 0, 0, 0, 0), (95, .iconst 0, 0, 0, 0), (96, .putfield 47, 3, 12, 3060), (99, .return_, 0, 0, 0)])
def zm13 : zMR := (⟨"RailwayHouse$Reader", "<init>", "()V"⟩, prog_6_method_1_code, 1, none, ⟨2, 9, 2265, 40⟩, 4,
  [(0, .aload_n 0, 0, 0, 0), (1, .invokespecial 3, 0, 50, 1035), (4, .aload_n 0, 0, 0, 0), (5, .sipush 2000, 0, 0, 0), (8, .newarray .byte, 0, 0, 0), (10, .putfield 11, 4, 0, 1093), (13, .aload_n 0, 0, 0, 0), (14, .new 15, 2, 0, 1036), (17, .dup, 0, 0, 0), (18, .invokespecial 17, 11, 100, 1), (21, .putfield 18, 4, 1, 1094), (24, .aload_n 0, 0, 0, 0), (25, .iconst 0, 0, 0, 0), (26, .putfield 22, 4, 2, 1096), (29, .aload_n 0, 0, 0, 0), (30, .iconst 0, 0, 0, 0), (31, .putfield 26, 4, 3, 1098), (34, .aload_n 0, 0, 0, 0), (35, .bipush (-9), 0, 0, 0), (37, .putfield 29, 4, 4, 1100), (40, .aload_n 0, 0, 0, 0), (41, .iconst 0, 0, 0, 0), (42, .putfield 32, 4, 5, 1102), (45, .aload_n 0, 0, 0, 0), (46, .iconst 0, 0, 0, 0), (47, .putfield 35, 4, 6, 1103), (50, .aload_n 0, 0, 0, 0), (51, .iconst 0, 0, 0, 0), (52, .putfield 38, 4, 7, 1104), (55, .aload_n 0, 0, 0, 0), (56, .iconst 0, 0, 0, 0), (57, .putfield 41, 4, 8, 1105), (60, .return_, 0, 0, 0)])
def zm14 : zMR := (⟨"RailwayHouse$Reports", "<init>", "(LRailwayHouse$Layout;)V"⟩, prog_7_method_1_code, 2, none, ⟨1, 6, 144, 20⟩, 5,
  [(0, .aload_n 0, 0, 0, 0), (1, .invokespecial 3, 0, 50, 1216), (4, .aload_n 0, 0, 0, 0), (5, .bipush 24, 0, 0, 0), (7, .newarray .int, 0, 0, 0), (9, .putfield 9, 5, 1, 1218), (12, .aload_n 0, 0, 0, 0), (13, .bipush 24, 0, 0, 0), (15, .newarray .int, 0, 0, 0), (17, .putfield 15, 5, 2, 1219), (20, .aload_n 0, 0, 0, 0), (21, .bipush 24, 0, 0, 0), (23, .newarray .int, 0, 0, 0), (25, .putfield 18, 5, 3, 1220), (28, .aload_n 0, 0, 0, 0), (29, .bipush 24, 0, 0, 0), (31, .newarray .int, 0, 0, 0), (33, .putfield 21, 5, 4, 1221), (36, .aload_n 0, 0, 0, 0), (37, .bipush 24, 0, 0, 0), (39, .newarray .int, 0, 0, 0), (41, .putfield 24, 5, 5, 1222), (44, .aload_n 0, 0, 0, 0), (45, .bipush 24, 0, 0, 0), (47, .newarray .int, 0, 0, 0), (49, .putfield 27, 5, 6, 1223), (52, .aload_n 0, 0, 0, 0), (53, .iconst (-1), 0, 0, 0), (54, .putfield 30, 5, 7, 1224), (57, .aload_n 0, 0, 0, 0), (58, .iconst 0, 0, 0, 0), (59, .putfield 34, 5, 8, 1228), (62, .aload_n 0, 0, 0, 0), (63, .iconst 0, 0, 0, 0), (64, .putfield 37, 5, 9, 1230), (67, .aload_n 0, 0, 0, 0), (68, .aload_n 1, 0, 0, 0), (69, .putfield 40, 5, 0, 1217), (72, .return_, 0, 0, 0)])
def zm15 : zMR := (⟨"RailwayHouse$Timetable", "begin", "()V"⟩, prog_8_method_2_code, 2, none, ⟨1, 0, 0, 20⟩, 6,
  [(0, .iconst 0, 0, 0, 0), (1, .istore_n 1, 0, 0, 0), (2, .iload_n 1, 0, 0, 0), (3, .bipush 8, 0, 0, 0), (5, .if_icmp .ge 23, 28, 0, 0), (8, .aload_n 0, 0, 0, 0), (9, .getfield 9, 6, 0, 2174), (12, .iload_n 1, 0, 0, 0), (13, .iconst 5, 0, 0, 0), (14, .iastore, 0, 0, 0), (15, .aload_n 0, 0, 0, 0), (16, .getfield 15, 6, 1, 2177), (19, .iload_n 1, 0, 0, 0), (20, .iconst 0, 0, 0, 0), (21, .iastore, 0, 0, 0), (22, .iinc 1 1, 0, 0, 0), (25, .goto (-23), 2, 0, 0), (28, .aload_n 0, 0, 0, 0), (29, .iconst 0, 0, 0, 0), (30, .putfield 18, 6, 2, 2179), (33, .aload_n 0, 0, 0, 0), (34, .iconst 0, 0, 0, 0), (35, .putfield 37, 6, 8, 2192), (38, .aload_n 0, 0, 0, 0), (39, .iconst 0, 0, 0, 0), (40, .putfield 40, 6, 9, 2194), (43, .return_, 0, 0, 0)])
def zm16 : zMR := (⟨"RailwayHouse$Timetable", "<init>", "()V"⟩, prog_8_method_1_code, 1, none, ⟨2, 13, 2728, 41⟩, 6,
  [(0, .aload_n 0, 0, 0, 0), (1, .invokespecial 3, 0, 50, 2169), (4, .aload_n 0, 0, 0, 0), (5, .bipush 8, 0, 0, 0), (7, .newarray .int, 0, 0, 0), (9, .putfield 9, 6, 0, 2174), (12, .aload_n 0, 0, 0, 0), (13, .bipush 8, 0, 0, 0), (15, .newarray .int, 0, 0, 0), (17, .putfield 15, 6, 1, 2177), (20, .aload_n 0, 0, 0, 0), (21, .iconst 0, 0, 0, 0), (22, .putfield 18, 6, 2, 2179), (25, .aload_n 0, 0, 0, 0), (26, .bipush 12, 0, 0, 0), (28, .newarray .int, 0, 0, 0), (30, .putfield 22, 6, 3, 2182), (33, .aload_n 0, 0, 0, 0), (34, .bipush 12, 0, 0, 0), (36, .newarray .int, 0, 0, 0), (38, .putfield 25, 6, 4, 2183), (41, .aload_n 0, 0, 0, 0), (42, .bipush 96, 0, 0, 0), (44, .newarray .int, 0, 0, 0), (46, .putfield 28, 6, 5, 2186), (49, .aload_n 0, 0, 0, 0), (50, .bipush 96, 0, 0, 0), (52, .newarray .int, 0, 0, 0), (54, .putfield 31, 6, 6, 2188), (57, .aload_n 0, 0, 0, 0), (58, .bipush 96, 0, 0, 0), (60, .newarray .int, 0, 0, 0), (62, .putfield 34, 6, 7, 2190), (65, .aload_n 0, 0, 0, 0), (66, .iconst 0, 0, 0, 0), (67, .putfield 37, 6, 8, 2192), (70, .aload_n 0, 0, 0, 0), (71, .iconst 0, 0, 0, 0), (72, .putfield 40, 6, 9, 2194), (75, .aload_n 0, 0, 0, 0), (76, .sipush 400, 0, 0, 0), (79, .newarray .int, 0, 0, 0), (81, .putfield 43, 6, 10, 2196), (84, .aload_n 0, 0, 0, 0), (85, .sipush 400, 0, 0, 0), (88, .newarray .int, 0, 0, 0), (90, .putfield 46, 6, 11, 2198), (93, .aload_n 0, 0, 0, 0), (94, .sipush 400, 0, 0, 0), (97, .newarray .int, 0, 0, 0), (99, .putfield 49, 6, 12, 2199), (102, .aload_n 0, 0, 0, 0), (103, .sipush 400, 0, 0, 0), (106, .newarray .int, 0, 0, 0), (108, .putfield 52, 6, 13, 2200), (111, .aload_n 0, 0, 0, 0), (112, .sipush 400, 0, 0, 0), (115, .newarray .int, 0, 0, 0), (117, .putfield 55, 6, 14, 2201), (120, .aload_n 0, 0, 0, 0), (121, .sipush 400, 0, 0, 0), (124, .newarray .int, 0, 0, 0), (126, .putfield 58, 6, 15, 2203), (129, .aload_n 0, 0, 0, 0), (130, .invokevirtual 61, 15, 0, 2170), (133, .return_, 0, 0, 0)])
def zm17 : zMR := (⟨"RailwayHouse$Channel", "<init>", "(LRailwayHouse$Ways;LRailwayHouse$Reports;)V"⟩, prog_2_method_1_code, 3, none, ⟨1, 8, 324, 20⟩, 0,
  [(0, .aload_n 0, 0, 0, 0), (1, .invokespecial 3, 0, 50, 2025), (4, .aload_n 0, 0, 0, 0), (5, .bipush 40, 0, 0, 0), (7, .newarray .int, 0, 0, 0), (9, .putfield 9, 0, 2, 2028), (12, .aload_n 0, 0, 0, 0), (13, .bipush 40, 0, 0, 0), (15, .newarray .int, 0, 0, 0), (17, .putfield 15, 0, 3, 2029), (20, .aload_n 0, 0, 0, 0), (21, .bipush 40, 0, 0, 0), (23, .newarray .int, 0, 0, 0), (25, .putfield 18, 0, 4, 2030), (28, .aload_n 0, 0, 0, 0), (29, .bipush 40, 0, 0, 0), (31, .newarray .int, 0, 0, 0), (33, .putfield 21, 0, 5, 2031), (36, .aload_n 0, 0, 0, 0), (37, .bipush 40, 0, 0, 0), (39, .newarray .boolean, 0, 0, 0), (41, .putfield 24, 0, 6, 2032), (44, .aload_n 0, 0, 0, 0), (45, .bipush 40, 0, 0, 0), (47, .newarray .boolean, 0, 0, 0), (49, .putfield 28, 0, 7, 2033), (52, .aload_n 0, 0, 0, 0), (53, .lconst 0, 0, 0, 0), (54, .putfield 31, 0, 8, 2034), (57, .aload_n 0, 0, 0, 0), (58, .iconst 0, 0, 0, 0), (59, .putfield 35, 0, 9, 2035), (62, .aload_n 0, 0, 0, 0), (63, .bipush 42, 0, 0, 0), (65, .newarray .int, 0, 0, 0), (67, .putfield 39, 0, 10, 2036), (70, .aload_n 0, 0, 0, 0), (71, .bipush 42, 0, 0, 0), (73, .newarray .int, 0, 0, 0), (75, .putfield 42, 0, 11, 2037), (78, .aload_n 0, 0, 0, 0), (79, .iconst 0, 0, 0, 0), (80, .putfield 45, 0, 12, 2038), (83, .aload_n 0, 0, 0, 0), (84, .iconst 1, 0, 0, 0), (85, .putfield 48, 0, 13, 2041), (88, .aload_n 0, 0, 0, 0), (89, .aload_n 1, 0, 0, 0), (90, .putfield 52, 0, 0, 2026), (93, .aload_n 0, 0, 0, 0), (94, .aload_n 2, 0, 0, 0), (95, .putfield 56, 0, 1, 2027), (98, .return_, 0, 0, 0)])
def zm18 : zMR := (⟨"RailwayHouse$Vote", "<init>", "(LRailwayHouse$Ways;LRailwayHouse$Reports;)V"⟩, prog_10_method_1_code, 4, none, ⟨2, 29, 1057, 42⟩, 8,
  [(0, .aload_n 0, 0, 0, 0), (1, .invokespecial 3, 0, 50, 2018), (4, .aload_n 0, 0, 0, 0), (5, .iconst 3, 0, 0, 0), (6, .anewarray 9, 0, 3, 2019), (9, .putfield 11, 8, 2, 2076), (12, .aload_n 0, 0, 0, 0), (13, .bipush 40, 0, 0, 0), (15, .newarray .int, 0, 0, 0), (17, .putfield 17, 8, 3, 2078), (20, .aload_n 0, 0, 0, 0), (21, .iconst 0, 0, 0, 0), (22, .putfield 21, 8, 4, 2079), (25, .aload_n 0, 0, 0, 0), (26, .iconst 0, 0, 0, 0), (27, .putfield 25, 8, 5, 2080), (30, .aload_n 0, 0, 0, 0), (31, .iconst 0, 0, 0, 0), (32, .putfield 29, 8, 6, 2082), (35, .aload_n 0, 0, 0, 0), (36, .iconst 0, 0, 0, 0), (37, .putfield 32, 8, 7, 2084), (40, .aload_n 0, 0, 0, 0), (41, .iconst 0, 0, 0, 0), (42, .putfield 35, 8, 8, 2086), (45, .aload_n 0, 0, 0, 0), (46, .iconst 0, 0, 0, 0), (47, .putfield 38, 8, 9, 2088), (50, .aload_n 0, 0, 0, 0), (51, .aload_n 1, 0, 0, 0), (52, .putfield 41, 8, 0, 2074), (55, .aload_n 0, 0, 0, 0), (56, .aload_n 2, 0, 0, 0), (57, .putfield 45, 8, 1, 2075), (60, .iconst 0, 0, 0, 0), (61, .istore_n 3, 0, 0, 0), (62, .iload_n 3, 0, 0, 0), (63, .iconst 3, 0, 0, 0), (64, .if_icmp .ge 24, 88, 0, 0), (67, .aload_n 0, 0, 0, 0), (68, .getfield 11, 8, 2, 2076), (71, .iload_n 3, 0, 0, 0), (72, .new 9, 0, 0, 2019), (75, .dup, 0, 0, 0), (76, .aload_n 1, 0, 0, 0), (77, .aload_n 2, 0, 0, 0), (78, .invokespecial 49, 17, 2, 2022), (81, .aastore, 0, 0, 0), (82, .iinc 3 1, 0, 0, 0), (85, .goto (-23), 62, 0, 0), (88, .return_, 0, 0, 0)])
def zm19 : zMR := (⟨"RailwayHouse$Ways", "<init>", "(LRailwayHouse$Layout;)V"⟩, prog_11_method_1_code, 2, none, ⟨1, 15, 2370, 20⟩, 9,
  [(0, .aload_n 0, 0, 0, 0), (1, .invokespecial 3, 0, 50, 1132), (4, .aload_n 0, 0, 0, 0), (5, .iconst 0, 0, 0, 0), (6, .putfield 9, 9, 1, 1135), (9, .aload_n 0, 0, 0, 0), (10, .bipush 40, 0, 0, 0), (12, .newarray .int, 0, 0, 0), (14, .putfield 15, 9, 2, 1139), (17, .aload_n 0, 0, 0, 0), (18, .bipush 40, 0, 0, 0), (20, .newarray .int, 0, 0, 0), (22, .putfield 19, 9, 3, 1143), (25, .aload_n 0, 0, 0, 0), (26, .bipush 40, 0, 0, 0), (28, .newarray .int, 0, 0, 0), (30, .putfield 22, 9, 4, 1146), (33, .aload_n 0, 0, 0, 0), (34, .bipush 40, 0, 0, 0), (36, .newarray .int, 0, 0, 0), (38, .putfield 25, 9, 5, 1149), (41, .aload_n 0, 0, 0, 0), (42, .bipush 40, 0, 0, 0), (44, .newarray .int, 0, 0, 0), (46, .putfield 28, 9, 6, 1152), (49, .aload_n 0, 0, 0, 0), (50, .sipush 320, 0, 0, 0), (53, .newarray .int, 0, 0, 0), (55, .putfield 31, 9, 7, 1154), (58, .aload_n 0, 0, 0, 0), (59, .sipush 680, 0, 0, 0), (62, .newarray .int, 0, 0, 0), (64, .putfield 34, 9, 8, 1157), (67, .aload_n 0, 0, 0, 0), (68, .sipush 360, 0, 0, 0), (71, .newarray .int, 0, 0, 0), (73, .putfield 37, 9, 9, 1159), (76, .aload_n 0, 0, 0, 0), (77, .sipush 360, 0, 0, 0), (80, .newarray .int, 0, 0, 0), (82, .putfield 40, 9, 10, 1160), (85, .aload_n 0, 0, 0, 0), (86, .sipush 360, 0, 0, 0), (89, .newarray .int, 0, 0, 0), (91, .putfield 43, 9, 11, 1161), (94, .aload_n 0, 0, 0, 0), (95, .bipush 40, 0, 0, 0), (97, .newarray .int, 0, 0, 0), (99, .putfield 46, 9, 12, 1162), (102, .aload_n 0, 0, 0, 0), (103, .bipush 8, 0, 0, 0), (105, .newarray .int, 0, 0, 0), (107, .putfield 49, 9, 13, 1163), (110, .aload_n 0, 0, 0, 0), (111, .bipush 8, 0, 0, 0), (113, .newarray .int, 0, 0, 0), (115, .putfield 52, 9, 14, 1164), (118, .aload_n 0, 0, 0, 0), (119, .bipush 17, 0, 0, 0), (121, .newarray .int, 0, 0, 0), (123, .putfield 55, 9, 15, 1165), (126, .aload_n 0, 0, 0, 0), (127, .bipush 17, 0, 0, 0), (129, .newarray .int, 0, 0, 0), (131, .putfield 58, 9, 16, 1166), (134, .aload_n 0, 0, 0, 0), (135, .iconst 0, 0, 0, 0), (136, .putfield 61, 9, 17, 1167), (139, .aload_n 0, 0, 0, 0), (140, .iconst 0, 0, 0, 0), (141, .putfield 64, 9, 18, 1168), (144, .aload_n 0, 0, 0, 0), (145, .iconst 0, 0, 0, 0), (146, .putfield 68, 9, 19, 1169), (149, .aload_n 0, 0, 0, 0), (150, .aload_n 1, 0, 0, 0), (151, .putfield 71, 9, 0, 1133), (154, .return_, 0, 0, 0)])
def zm20 : zMR := (⟨"RailwayHouse$Yard", "<init>", "(LRailwayHouse$Layout;)V"⟩, prog_12_method_1_code, 2, none, ⟨1, 6, 528, 20⟩, 10,
  [(0, .aload_n 0, 0, 0, 0), (1, .invokespecial 7, 0, 50, 2116), (4, .aload_n 0, 0, 0, 0), (5, .bipush 24, 0, 0, 0), (7, .newarray .int, 0, 0, 0), (9, .putfield 13, 10, 1, 2120), (12, .aload_n 0, 0, 0, 0), (13, .bipush 24, 0, 0, 0), (15, .newarray .int, 0, 0, 0), (17, .putfield 17, 10, 2, 2122), (20, .aload_n 0, 0, 0, 0), (21, .bipush 24, 0, 0, 0), (23, .newarray .int, 0, 0, 0), (25, .putfield 20, 10, 3, 2123), (28, .aload_n 0, 0, 0, 0), (29, .iconst 0, 0, 0, 0), (30, .putfield 23, 10, 4, 2124), (33, .aload_n 0, 0, 0, 0), (34, .sipush 200, 0, 0, 0), (37, .anewarray 1, 7, 4, 2117), (40, .putfield 27, 10, 5, 2126), (43, .aload_n 0, 0, 0, 0), (44, .iconst 0, 0, 0, 0), (45, .putfield 31, 10, 6, 2127), (48, .aload_n 0, 0, 0, 0), (49, .iconst 0, 0, 0, 0), (50, .putfield 34, 10, 7, 2129), (53, .aload_n 0, 0, 0, 0), (54, .iconst 0, 0, 0, 0), (55, .putfield 37, 10, 8, 2131), (58, .aload_n 0, 0, 0, 0), (59, .sipush 128, 0, 0, 0), (62, .newarray .int, 0, 0, 0), (64, .putfield 40, 10, 9, 2133), (67, .aload_n 0, 0, 0, 0), (68, .sipush 128, 0, 0, 0), (71, .newarray .int, 0, 0, 0), (73, .putfield 43, 10, 10, 2134), (76, .aload_n 0, 0, 0, 0), (77, .iconst 0, 0, 0, 0), (78, .putfield 46, 10, 11, 2135), (81, .aload_n 0, 0, 0, 0), (82, .bipush (-9), 0, 0, 0), (84, .putfield 49, 10, 12, 2136), (87, .aload_n 0, 0, 0, 0), (88, .aload_n 1, 0, 0, 0), (89, .putfield 52, 10, 0, 2119), (92, .return_, 0, 0, 0)])
def zm21 : zMR := (⟨"RailwayHouse", "<init>", "()V"⟩, prog_1_method_1_code, 1, none, ⟨7, 113, 10520, 149⟩, 11,
  [(0, .aload_n 0, 0, 0, 0), (1, .invokespecial 1, 0, 50, 1027), (4, .aload_n 0, 0, 0, 0), (5, .new 7, 4, 0, 1030), (8, .dup, 0, 0, 0), (9, .invokespecial 9, 13, 100, 0), (12, .putfield 10, 11, 0, 3132), (15, .aload_n 0, 0, 0, 0), (16, .new 16, 2, 0, 1125), (19, .dup, 0, 0, 0), (20, .invokespecial 18, 11, 100, 2), (23, .putfield 19, 11, 1, 3133), (26, .aload_n 0, 0, 0, 0), (27, .new 23, 9, 0, 1127), (30, .dup, 0, 0, 0), (31, .aload_n 0, 0, 0, 0), (32, .getfield 19, 11, 1, 3133), (35, .invokespecial 25, 19, 1, 1129), (38, .putfield 28, 11, 2, 3134), (41, .aload_n 0, 0, 0, 0), (42, .new 32, 5, 0, 1211), (45, .dup, 0, 0, 0), (46, .aload_n 0, 0, 0, 0), (47, .getfield 19, 11, 1, 3133), (50, .invokespecial 34, 14, 1, 1213), (53, .putfield 35, 11, 3, 3135), (56, .aload_n 0, 0, 0, 0), (57, .new 39, 8, 0, 2013), (60, .dup, 0, 0, 0), (61, .aload_n 0, 0, 0, 0), (62, .getfield 28, 11, 2, 3134), (65, .aload_n 0, 0, 0, 0), (66, .getfield 35, 11, 3, 3135), (69, .invokespecial 41, 18, 2, 2015), (72, .putfield 44, 11, 4, 3136), (75, .aload_n 0, 0, 0, 0), (76, .new 48, 10, 0, 2111), (79, .dup, 0, 0, 0), (80, .aload_n 0, 0, 0, 0), (81, .getfield 19, 11, 1, 3133), (84, .invokespecial 50, 20, 1, 2113), (87, .putfield 51, 11, 5, 3137), (90, .aload_n 0, 0, 0, 0), (91, .new 55, 6, 0, 2164), (94, .dup, 0, 0, 0), (95, .invokespecial 57, 16, 0, 2166), (98, .putfield 58, 11, 6, 3138), (101, .aload_n 0, 0, 0, 0), (102, .new 62, 1, 0, 2238), (105, .dup, 0, 0, 0), (106, .aload_n 0, 0, 0, 0), (107, .getfield 58, 11, 6, 3138), (110, .invokespecial 64, 10, 1, 3000), (113, .putfield 67, 11, 7, 3139), (116, .aload_n 0, 0, 0, 0), (117, .new 71, 3, 0, 3040), (120, .dup, 0, 0, 0), (121, .invokespecial 73, 12, 100, 5), (124, .putfield 74, 11, 8, 3140), (127, .aload_n 0, 0, 0, 0), (128, .bipush 16, 0, 0, 0), (130, .newarray .int, 0, 0, 0), (132, .putfield 78, 11, 9, 3141), (135, .aload_n 0, 0, 0, 0), (136, .invokevirtual 82, 9, 0, 3088), (139, .return_, 0, 0, 0)])
def zm22 : zMR := (⟨"RailwayHouse$Vote", "house", "()LRailwayHouse$Channel;"⟩, prog_10_method_4_code, 2, some (.object "RailwayHouse$Channel"), ⟨1, 0, 0, 20⟩, 8,
  [(0, .iconst 0, 0, 0, 0), (1, .istore_n 1, 0, 0, 0), (2, .iload_n 1, 0, 0, 0), (3, .iconst 3, 0, 0, 0), (4, .if_icmp .ge 28, 32, 0, 0), (7, .aload_n 0, 0, 0, 0), (8, .getfield 11, 8, 2, 2076), (11, .iload_n 1, 0, 0, 0), (12, .aaload, 0, 0, 0), (13, .getfield 59, 0, 13, 2042), (16, .ifCond .eq 10, 26, 0, 0), (19, .aload_n 0, 0, 0, 0), (20, .getfield 11, 8, 2, 2076), (23, .iload_n 1, 0, 0, 0), (24, .aaload, 0, 0, 0), (25, .areturn, 0, 0, 0)])
def zm23 : zMR := (⟨"RailwayHouse$Vote", "isClearThoughUnsafe", "(LRailwayHouse$Channel;)Z"⟩, prog_10_method_17_code, 3, some .boolean, ⟨1, 0, 0, 20⟩, 8,
  [(0, .iconst 0, 0, 0, 0), (1, .istore_n 2, 0, 0, 0), (2, .iload_n 2, 0, 0, 0), (3, .aload_n 0, 0, 0, 0), (4, .getfield 41, 8, 0, 2074), (7, .getfield 107, 9, 1, 1136), (10, .if_icmp .ge 74, 84, 0, 0), (84, .iconst 0, 0, 0, 0), (85, .ireturn, 0, 0, 0)])
def zm24 : zMR := (⟨"RailwayHouse$Vote", "isShownWithoutRoute", "(LRailwayHouse$Channel;)Z"⟩, prog_10_method_16_code, 4, some .boolean, ⟨1, 0, 0, 20⟩, 8,
  [(0, .aload_n 0, 0, 0, 0), (1, .getfield 32, 8, 7, 2084), (4, .istore_n 2, 0, 0, 0), (5, .iconst 0, 0, 0, 0), (6, .istore_n 3, 0, 0, 0), (7, .iload_n 3, 0, 0, 0), (8, .aload_n 0, 0, 0, 0), (9, .getfield 41, 8, 0, 2074), (12, .getfield 107, 9, 1, 1136), (15, .if_icmp .ge 33, 48, 0, 0), (48, .iload_n 2, 0, 0, 0), (49, .ifCond .eq 7, 56, 0, 0), (56, .iconst 0, 0, 0, 0), (57, .ireturn, 0, 0, 0)])
def zm25 : zMR := (⟨"RailwayHouse$Vote", "firstWrong", "()I"⟩, prog_10_method_15_code, 7, some .int, ⟨2, 0, 0, 43⟩, 8,
  [(0, .aload_n 0, 0, 0, 0), (1, .invokevirtual 90, 22, 0, 5212), (4, .astore_n 1, 0, 0, 0), (5, .aload_n 0, 0, 0, 0), (6, .aload_n 1, 0, 0, 0), (7, .invokevirtual 126, 24, 1, 7067), (10, .ifCond .eq 5, 15, 0, 0), (15, .aload_n 0, 0, 0, 0), (16, .aload_n 1, 0, 0, 0), (17, .invokevirtual 129, 23, 1, 7076), (20, .ifCond .eq 5, 25, 0, 0), (25, .iconst 0, 0, 0, 0), (26, .istore_n 2, 0, 0, 0), (27, .iconst 0, 0, 0, 0), (28, .istore_n 3, 0, 0, 0), (29, .iconst 0, 0, 0, 0), (30, .istore 4, 0, 0, 0), (32, .iconst 0, 0, 0, 0), (33, .istore 5, 0, 0, 0), (35, .iconst 0, 0, 0, 0), (36, .istore 6, 0, 0, 0), (38, .iload 6, 0, 0, 0), (40, .aload_n 0, 0, 0, 0), (41, .getfield 41, 8, 0, 2074), (44, .getfield 107, 9, 1, 1136), (47, .if_icmp .ge 63, 110, 0, 0), (110, .iload_n 3, 0, 0, 0), (111, .ifCond .eq 5, 116, 0, 0), (116, .iload 4, 0, 0, 0), (118, .iload 5, 0, 0, 0), (120, .iand, 0, 0, 0), (121, .ifCond .eq 7, 128, 0, 0), (128, .iconst 0, 0, 0, 0), (129, .ireturn, 0, 0, 0)])
def zm26 : zMR := (⟨"RailwayHouse$Yard", "twoOnOne", "()Z"⟩, prog_12_method_11_code, 4, some .boolean, ⟨1, 0, 0, 20⟩, 10,
  [(0, .iconst 0, 0, 0, 0), (1, .istore_n 1, 0, 0, 0), (2, .iconst 0, 0, 0, 0), (3, .istore_n 2, 0, 0, 0), (4, .iload_n 2, 0, 0, 0), (5, .aload_n 0, 0, 0, 0), (6, .getfield 31, 10, 6, 2127), (9, .if_icmp .ge 37, 46, 0, 0), (46, .iconst 0, 0, 0, 0), (47, .ireturn, 0, 0, 0)])
def zm27 : zMR := (⟨"RailwayHouse", "audit", "()I"⟩, prog_1_method_34_code, 2, some .int, ⟨3, 0, 0, 69⟩, 11,
  [(0, .aload_n 0, 0, 0, 0), (1, .getfield 44, 11, 4, 3136), (4, .invokevirtual 289, 25, 0, 7063), (7, .istore_n 1, 0, 0, 0), (8, .iload_n 1, 0, 0, 0), (9, .ifCond .eq 5, 14, 0, 0), (14, .aload_n 0, 0, 0, 0), (15, .getfield 51, 11, 5, 3137), (18, .invokevirtual 292, 26, 0, 7084), (21, .ifCond .eq 7, 28, 0, 0), (28, .iconst 0, 0, 0, 0), (29, .ireturn, 0, 0, 0)])
def zm28 : zMR := (⟨"RailwayHouse$Layout", "isPoint", "(I)Z"⟩, prog_4_method_10_code, 2, some .boolean, ⟨1, 0, 0, 20⟩, 2,
  [(0, .iload_n 1, 0, 0, 0), (1, .ifCond .lt 25, 26, 0, 0), (4, .iload_n 1, 0, 0, 0), (5, .aload_n 0, 0, 0, 0), (6, .getfield 33, 2, 0, 1042), (9, .if_icmp .ge 17, 26, 0, 0), (26, .iconst 0, 0, 0, 0), (27, .ireturn, 0, 0, 0)])
def zm29 : zMR := (⟨"RailwayHouse", "block", "(IZ)I"⟩, prog_1_method_26_code, 4, some .int, ⟨2, 0, 0, 41⟩, 11,
  [(0, .aload_n 0, 0, 0, 0), (1, .getfield 19, 11, 1, 3133), (4, .iload_n 1, 0, 0, 0), (5, .invokevirtual 168, 28, 1, 5129), (8, .ifCond .ne 5, 13, 0, 0), (11, .iconst (-1), 0, 0, 0), (12, .ireturn, 0, 0, 0)])
def zm30 : zMR := (⟨"RailwayHouse$Ways", "hasRoute", "(I)Z"⟩, prog_11_method_2_code, 2, some .boolean, ⟨1, 0, 0, 20⟩, 9,
  [(0, .iload_n 1, 0, 0, 0), (1, .ifCond .lt 15, 16, 0, 0), (4, .iload_n 1, 0, 0, 0), (5, .aload_n 0, 0, 0, 0), (6, .getfield 9, 9, 1, 1135), (9, .if_icmp .ge 7, 16, 0, 0), (16, .iconst 0, 0, 0, 0), (17, .ireturn, 0, 0, 0)])
def zm31 : zMR := (⟨"RailwayHouse", "cancel", "(I)I"⟩, prog_1_method_13_code, 2, some .int, ⟨2, 0, 0, 41⟩, 11,
  [(0, .aload_n 0, 0, 0, 0), (1, .getfield 28, 11, 2, 3134), (4, .iload_n 1, 0, 0, 0), (5, .invokevirtual 138, 30, 1, 5006), (8, .ifCond .eq 16, 24, 0, 0), (24, .iconst (-1), 0, 0, 0), (25, .ireturn, 0, 0, 0)])
def zm32 : zMR := (⟨"RailwayHouse", "isChannel", "(I)Z"⟩, prog_1_method_24_code, 1, some .boolean, ⟨1, 0, 0, 20⟩, 111,
  [(0, .iload_n 0, 0, 0, 0), (1, .ifCond .lt 12, 13, 0, 0), (4, .iload_n 0, 0, 0, 0), (5, .iconst 3, 0, 0, 0), (6, .if_icmp .ge 7, 13, 0, 0), (9, .iconst 1, 0, 0, 0), (10, .goto 4, 14, 0, 0), (13, .iconst 0, 0, 0, 0), (14, .ireturn, 0, 0, 0)])
def zm33 : zMR := (⟨"RailwayHouse", "channel", "(II)I"⟩, prog_1_method_22_code, 3, some .int, ⟨2, 0, 0, 40⟩, 11,
  [(0, .iload_n 1, 0, 0, 0), (1, .invokestatic 171, 32, 1, 5134), (4, .ifCond .ne 5, 9, 0, 0), (7, .iconst (-1), 0, 0, 0), (8, .ireturn, 0, 0, 0), (9, .iload_n 2, 0, 0, 0), (10, .lookupswitch 60 #[(0, 26), (1, 47)], 0, 2147483648, 2147483650), (36, .aload_n 0, 0, 0, 0), (37, .getfield 44, 11, 4, 3136), (40, .getfield 174, 8, 2, 2077), (43, .iload_n 1, 0, 0, 0), (44, .aaload, 0, 0, 0), (45, .getfield 206, 0, 13, 2043), (48, .ifCond .eq 7, 55, 0, 0), (51, .iconst 1, 0, 0, 0), (52, .goto 4, 56, 0, 0), (56, .ireturn, 0, 0, 0), (57, .aload_n 0, 0, 0, 0), (58, .getfield 44, 11, 4, 3136), (61, .getfield 174, 8, 2, 2077), (64, .iload_n 1, 0, 0, 0), (65, .aaload, 0, 0, 0), (66, .getfield 205, 0, 12, 2040), (69, .ireturn, 0, 0, 0), (70, .bipush (-2), 0, 0, 0), (72, .ireturn, 0, 0, 0)])
def zm34 : zMR := (⟨"RailwayHouse$Layout", "wipe", "()V"⟩, prog_4_method_2_code, 1, none, ⟨1, 0, 0, 20⟩, 2,
  [(0, .aload_n 0, 0, 0, 0), (1, .iconst 0, 0, 0, 0), (2, .putfield 33, 2, 0, 1042), (5, .aload_n 0, 0, 0, 0), (6, .iconst 0, 0, 0, 0), (7, .putfield 37, 2, 1, 1047), (10, .return_, 0, 0, 0)])
def zm35 : zMR := (⟨"RailwayHouse$Reader", "begin", "()V"⟩, prog_6_method_2_code, 1, none, ⟨1, 0, 0, 20⟩, 4,
  [(0, .aload_n 0, 0, 0, 0), (1, .iconst 0, 0, 0, 0), (2, .putfield 22, 4, 2, 1096), (5, .aload_n 0, 0, 0, 0), (6, .bipush (-9), 0, 0, 0), (8, .putfield 29, 4, 4, 1100), (11, .return_, 0, 0, 0)])
def zm36 : zMR := (⟨"RailwayHouse$Ways", "findAll", "()V"⟩, prog_11_method_10_code, 2, none, ⟨1, 0, 0, 20⟩, 9,
  [(0, .aload_n 0, 0, 0, 0), (1, .iconst 0, 0, 0, 0), (2, .putfield 9, 9, 1, 1135), (5, .iconst 0, 0, 0, 0), (6, .istore_n 1, 0, 0, 0), (7, .iload_n 1, 0, 0, 0), (8, .aload_n 0, 0, 0, 0), (9, .getfield 71, 9, 0, 1133), (12, .getfield 91, 2, 1, 1048), (15, .if_icmp .ge 28, 43, 0, 0), (43, .return_, 0, 0, 0)])
def zm37 : zMR := (⟨"RailwayHouse", "clear", "()I"⟩, prog_1_method_59_code, 2, some .int, ⟨7, 0, 0, 149⟩, 11,
  [(0, .aload_n 0, 0, 0, 0), (1, .getfield 286, 11, 11, 3143), (4, .istore_n 1, 0, 0, 0), (5, .aload_n 0, 0, 0, 0), (6, .getfield 10, 11, 0, 3132), (9, .invokevirtual 451, 35, 0, 8063), (12, .aload_n 0, 0, 0, 0), (13, .getfield 19, 11, 1, 3133), (16, .invokevirtual 452, 34, 0, 8067), (19, .aload_n 0, 0, 0, 0), (20, .getfield 28, 11, 2, 3134), (23, .invokevirtual 110, 36, 0, 4157), (26, .aload_n 0, 0, 0, 0), (27, .invokevirtual 82, 9, 0, 3088), (30, .aload_n 0, 0, 0, 0), (31, .getfield 58, 11, 6, 3138), (34, .invokevirtual 455, 15, 0, 8068), (37, .aload_n 0, 0, 0, 0), (38, .getfield 67, 11, 7, 3139), (41, .iconst 0, 0, 0, 0), (42, .putfield 456, 1, 1, 3006), (45, .aload_n 0, 0, 0, 0), (46, .getfield 74, 11, 8, 3140), (49, .iconst 0, 0, 0, 0), (50, .putfield 427, 3, 0, 3047), (53, .aload_n 0, 0, 0, 0), (54, .getfield 74, 11, 8, 3140), (57, .iconst 0, 0, 0, 0), (58, .putfield 436, 3, 1, 3049), (61, .iload_n 1, 0, 0, 0), (62, .ireturn, 0, 0, 0)])
def zm38 : zMR := (⟨"RailwayHouse", "clearLine", "()I"⟩, prog_1_method_55_code, 2, some .int, ⟨1, 0, 0, 20⟩, 11,
  [(0, .aload_n 0, 0, 0, 0), (1, .getfield 74, 11, 8, 3140), (4, .getfield 427, 3, 0, 3047), (7, .istore_n 1, 0, 0, 0), (8, .aload_n 0, 0, 0, 0), (9, .getfield 74, 11, 8, 3140), (12, .iconst 0, 0, 0, 0), (13, .putfield 427, 3, 0, 3047), (16, .iload_n 1, 0, 0, 0), (17, .ireturn, 0, 0, 0)])
def zm39 : zMR := (⟨"RailwayHouse", "conflict", "(II)I"⟩, prog_1_method_11_code, 3, some .int, ⟨2, 0, 0, 41⟩, 11,
  [(0, .aload_n 0, 0, 0, 0), (1, .getfield 28, 11, 2, 3134), (4, .iload_n 1, 0, 0, 0), (5, .invokevirtual 138, 30, 1, 5006), (8, .ifCond .eq 14, 22, 0, 0), (22, .iconst (-1), 0, 0, 0), (23, .ireturn, 0, 0, 0)])
def zm40 : zMR := (⟨"RailwayHouse", "count", "(I)I"⟩, prog_1_method_58_code, 2, some .int, ⟨1, 0, 0, 20⟩, 11,
  [(0, .iload_n 1, 0, 0, 0), (1, .tableswitch 205 0 14 #[75, 83, 91, 99, 104, 112, 120, 136, 152, 160, 165, 173, 181, 189, 197], 0, 2147483648, 2147483663), (76, .aload_n 0, 0, 0, 0), (77, .getfield 19, 11, 1, 3133), (80, .getfield 113, 2, 0, 1044), (83, .ireturn, 0, 0, 0), (84, .aload_n 0, 0, 0, 0), (85, .getfield 19, 11, 1, 3133), (88, .getfield 440, 2, 1, 1051), (91, .ireturn, 0, 0, 0), (92, .aload_n 0, 0, 0, 0), (93, .getfield 28, 11, 2, 3134), (96, .getfield 320, 9, 1, 1138), (99, .ireturn, 0, 0, 0), (100, .aload_n 0, 0, 0, 0), (101, .getfield 286, 11, 11, 3143), (104, .ireturn, 0, 0, 0), (105, .aload_n 0, 0, 0, 0), (106, .getfield 51, 11, 5, 3137), (109, .getfield 442, 10, 7, 2130), (112, .ireturn, 0, 0, 0), (113, .aload_n 0, 0, 0, 0), (114, .getfield 51, 11, 5, 3137), (117, .getfield 445, 10, 6, 2128), (120, .ireturn, 0, 0, 0), (121, .aload_n 0, 0, 0, 0), (122, .getfield 44, 11, 4, 3136), (125, .getfield 213, 8, 5, 2081), (128, .ifCond .eq 7, 135, 0, 0), (135, .iconst 0, 0, 0, 0), (136, .ireturn, 0, 0, 0), (137, .aload_n 0, 0, 0, 0), (138, .getfield 44, 11, 4, 3136), (141, .getfield 210, 8, 6, 2083), (144, .ifCond .eq 7, 151, 0, 0), (151, .iconst 0, 0, 0, 0), (152, .ireturn, 0, 0, 0), (153, .aload_n 0, 0, 0, 0), (154, .getfield 44, 11, 4, 3136), (157, .getfield 448, 8, 9, 2089), (160, .ireturn, 0, 0, 0), (161, .aload_n 0, 0, 0, 0), (162, .getfield 329, 11, 10, 3142), (165, .ireturn, 0, 0, 0), (166, .aload_n 0, 0, 0, 0), (167, .getfield 58, 11, 6, 3138), (170, .getfield 360, 6, 2, 2181), (173, .ireturn, 0, 0, 0), (174, .aload_n 0, 0, 0, 0), (175, .getfield 58, 11, 6, 3138), (178, .getfield 403, 6, 9, 2195), (181, .ireturn, 0, 0, 0), (182, .aload_n 0, 0, 0, 0), (183, .getfield 58, 11, 6, 3138), (186, .getfield 406, 6, 8, 2193), (189, .ireturn, 0, 0, 0), (190, .aload_n 0, 0, 0, 0), (191, .getfield 74, 11, 8, 3140), (194, .getfield 427, 3, 0, 3047), (197, .ireturn, 0, 0, 0), (198, .aload_n 0, 0, 0, 0), (199, .getfield 10, 11, 0, 3132), (202, .getfield 93, 4, 2, 1097), (205, .ireturn, 0, 0, 0), (206, .bipush (-2), 0, 0, 0), (208, .ireturn, 0, 0, 0)])
def zm41 : zMR := (⟨"RailwayHouse$Vote", "losePower", "()V"⟩, prog_10_method_13_code, 1, none, ⟨1, 0, 0, 20⟩, 8,
  [(0, .aload_n 0, 0, 0, 0), (1, .iconst 1, 0, 0, 0), (2, .putfield 29, 8, 6, 2082), (5, .aload_n 0, 0, 0, 0), (6, .iconst 0, 0, 0, 0), (7, .putfield 32, 8, 7, 2084), (10, .return_, 0, 0, 0)])
def zm42 : zMR := (⟨"RailwayHouse", "cut", "()I"⟩, prog_1_method_41_code, 1, some .int, ⟨2, 0, 0, 40⟩, 11,
  [(0, .aload_n 0, 0, 0, 0), (1, .getfield 44, 11, 4, 3136), (4, .getfield 210, 8, 6, 2083), (7, .ifCond .eq 6, 13, 0, 0), (13, .aload_n 0, 0, 0, 0), (14, .getfield 44, 11, 4, 3136), (17, .invokevirtual 345, 41, 0, 7101), (20, .iconst 1, 0, 0, 0), (21, .ireturn, 0, 0, 0)])
def zm43 : zMR := (⟨"RailwayHouse$Line", "keepBest", "(I)V"⟩, prog_5_method_7_code, 3, none, ⟨1, 0, 0, 20⟩, 3,
  [(0, .aload_n 0, 0, 0, 0), (1, .iload_n 1, 0, 0, 0), (2, .putfield 47, 3, 12, 3060), (5, .iconst 0, 0, 0, 0), (6, .istore_n 2, 0, 0, 0), (7, .iload_n 2, 0, 0, 0), (8, .aload_n 0, 0, 0, 0), (9, .getfield 7, 3, 0, 3046), (12, .if_icmp .ge 57, 69, 0, 0), (69, .return_, 0, 0, 0)])
def zm44 : zMR := (⟨"RailwayHouse$Line", "tryAll", "(III)V"⟩, prog_5_method_5_code, 6, none, ⟨2, 0, 0, 42⟩, 3,
  [(0, .iload_n 3, 0, 0, 0), (1, .aload_n 0, 0, 0, 0), (2, .getfield 47, 3, 12, 3060), (5, .if_icmp .lt 4, 9, 0, 0), (9, .iload_n 1, 0, 0, 0), (10, .aload_n 0, 0, 0, 0), (11, .getfield 7, 3, 0, 3046), (14, .if_icmp .lt 9, 23, 0, 0), (17, .aload_n 0, 0, 0, 0), (18, .iload_n 3, 0, 0, 0), (19, .invokevirtual 57, 43, 1, 8037), (22, .return_, 0, 0, 0)])
def zm45 : zMR := (⟨"RailwayHouse$Line", "findBest", "()I"⟩, prog_5_method_4_code, 1, some .int, ⟨3, 0, 0, 67⟩, 3,
  [(0, .aload_n 0, 0, 0, 0), (1, .ldc 52, 2147483647, 0, 8032), (3, .putfield 47, 3, 12, 3060), (6, .aload_n 0, 0, 0, 0), (7, .aload_n 0, 0, 0, 0), (8, .getfield 7, 3, 0, 3046), (11, .putfield 13, 3, 1, 3048), (14, .aload_n 0, 0, 0, 0), (15, .iconst 0, 0, 0, 0), (16, .iconst 0, 0, 0, 0), (17, .iconst 0, 0, 0, 0), (18, .invokevirtual 53, 44, 3, 8033), (21, .aload_n 0, 0, 0, 0), (22, .getfield 47, 3, 12, 3060), (25, .ireturn, 0, 0, 0)])
def zm46 : zMR := (⟨"RailwayHouse", "dispatch", "()I"⟩, prog_1_method_56_code, 1, some .int, ⟨4, 0, 0, 87⟩, 11,
  [(0, .aload_n 0, 0, 0, 0), (1, .getfield 74, 11, 8, 3140), (4, .invokevirtual 433, 45, 0, 8028), (7, .ireturn, 0, 0, 0)])
def zm47 : zMR := (⟨"RailwayHouse", "end", "(I)I"⟩, prog_1_method_3_code, 2, some .int, ⟨1, 0, 0, 20⟩, 11,
  [(0, .iload_n 1, 0, 0, 0), (1, .ifCond .lt 14, 15, 0, 0), (4, .iload_n 1, 0, 0, 0), (5, .aload_n 0, 0, 0, 0), (6, .getfield 10, 11, 0, 3132), (9, .getfield 93, 4, 2, 1097), (12, .if_icmp .le 6, 18, 0, 0), (15, .bipush (-2), 0, 0, 0), (17, .ireturn, 0, 0, 0), (18, .aload_n 0, 0, 0, 0), (19, .getfield 10, 11, 0, 3132), (22, .iload_n 1, 0, 0, 0), (23, .putfield 93, 4, 2, 1097), (26, .iload_n 1, 0, 0, 0), (27, .ireturn, 0, 0, 0)])
def zm48 : zMR := (⟨"RailwayHouse$Layout", "hasSection", "(I)Z"⟩, prog_4_method_7_code, 2, some .boolean, ⟨1, 0, 0, 20⟩, 2,
  [(0, .iload_n 1, 0, 0, 0), (1, .ifCond .lt 15, 16, 0, 0), (4, .iload_n 1, 0, 0, 0), (5, .aload_n 0, 0, 0, 0), (6, .getfield 33, 2, 0, 1042), (9, .if_icmp .ge 7, 16, 0, 0), (16, .iconst 0, 0, 0, 0), (17, .ireturn, 0, 0, 0)])
def zm49 : zMR := (⟨"RailwayHouse", "enter", "(IIIII)I"⟩, prog_1_method_27_code, 8, some .int, ⟨2, 0, 0, 41⟩, 11,
  [(0, .aload_n 0, 0, 0, 0), (1, .getfield 19, 11, 1, 3133), (4, .iload_n 1, 0, 0, 0), (5, .invokevirtual 119, 48, 1, 4223), (8, .ifCond .ne 5, 13, 0, 0), (11, .iconst (-1), 0, 0, 0), (12, .ireturn, 0, 0, 0)])
def zm50 : zMR := (⟨"RailwayHouse", "fault", "(II)I"⟩, prog_1_method_21_code, 4, some .int, ⟨2, 0, 0, 40⟩, 11,
  [(0, .iload_n 1, 0, 0, 0), (1, .invokestatic 171, 32, 1, 5134), (4, .ifCond .ne 5, 9, 0, 0), (7, .iconst (-1), 0, 0, 0), (8, .ireturn, 0, 0, 0), (9, .iload_n 2, 0, 0, 0), (10, .ifCond .lt 8, 18, 0, 0), (13, .iload_n 2, 0, 0, 0), (14, .iconst 5, 0, 0, 0), (15, .if_icmp .le 6, 21, 0, 0), (18, .bipush (-2), 0, 0, 0), (20, .ireturn, 0, 0, 0), (21, .aload_n 0, 0, 0, 0), (22, .getfield 44, 11, 4, 3136), (25, .getfield 174, 8, 2, 2077), (28, .iload_n 1, 0, 0, 0), (29, .aaload, 0, 0, 0), (30, .getfield 205, 0, 12, 2040), (33, .istore_n 3, 0, 0, 0), (34, .aload_n 0, 0, 0, 0), (35, .getfield 44, 11, 4, 3136), (38, .getfield 174, 8, 2, 2077), (41, .iload_n 1, 0, 0, 0), (42, .aaload, 0, 0, 0), (43, .iload_n 2, 0, 0, 0), (44, .putfield 205, 0, 12, 2040), (47, .iload_n 3, 0, 0, 0), (48, .ireturn, 0, 0, 0)])
def zm51 : zMR := (⟨"RailwayHouse$Reader", "hasRoom", "(I)Z"⟩, prog_6_method_3_code, 2, some .boolean, ⟨1, 0, 0, 20⟩, 4,
  [(0, .aload_n 0, 0, 0, 0), (1, .getfield 22, 4, 2, 1096), (4, .iload_n 1, 0, 0, 0), (5, .iadd, 0, 0, 0), (6, .sipush 2000, 0, 0, 0), (9, .if_icmp .gt 7, 16, 0, 0), (12, .iconst 1, 0, 0, 0), (13, .goto 4, 17, 0, 0), (17, .ireturn, 0, 0, 0)])
def zm52 : zMR := (⟨"RailwayHouse$Reader", "append", "(I)V"⟩, prog_6_method_4_code, 3, none, ⟨2, 0, 0, 41⟩, 4,
  [(0, .aload_n 0, 0, 0, 0), (1, .iconst 4, 0, 0, 0), (2, .invokevirtual 44, 51, 1, 3181), (5, .ifCond .ne 4, 9, 0, 0), (9, .bipush 24, 0, 0, 0), (11, .istore_n 2, 0, 0, 0), (12, .iload_n 2, 0, 0, 0), (13, .ifCond .lt 32, 45, 0, 0), (16, .aload_n 0, 0, 0, 0), (17, .getfield 11, 4, 0, 1093), (20, .aload_n 0, 0, 0, 0), (21, .getfield 22, 4, 2, 1096), (24, .iload_n 1, 0, 0, 0), (25, .iload_n 2, 0, 0, 0), (26, .iushr, 0, 0, 0), (27, .i2b, 0, 0, 0), (28, .bastore, 0, 0, 0), (29, .aload_n 0, 0, 0, 0), (30, .dup, 0, 0, 0), (31, .getfield 22, 4, 2, 1096), (34, .iconst 1, 0, 0, 0), (35, .iadd, 0, 0, 0), (36, .putfield 22, 4, 2, 1096), (39, .iinc 2 (-8), 0, 0, 0), (42, .goto (-30), 12, 0, 0), (45, .return_, 0, 0, 0)])
def zm53 : zMR := (⟨"RailwayHouse", "feed", "(IIIII)I"⟩, prog_1_method_2_code, 6, some .int, ⟨3, 0, 0, 63⟩, 11,
  [(0, .aload_n 0, 0, 0, 0), (1, .getfield 10, 11, 0, 3132), (4, .bipush 20, 0, 0, 0), (6, .invokevirtual 85, 51, 1, 3173), (9, .ifCond .ne 6, 15, 0, 0), (15, .aload_n 0, 0, 0, 0), (16, .getfield 10, 11, 0, 3132), (19, .iload_n 1, 0, 0, 0), (20, .invokevirtual 89, 52, 1, 3177), (23, .aload_n 0, 0, 0, 0), (24, .getfield 10, 11, 0, 3132), (27, .iload_n 2, 0, 0, 0), (28, .invokevirtual 89, 52, 1, 3177), (31, .aload_n 0, 0, 0, 0), (32, .getfield 10, 11, 0, 3132), (35, .iload_n 3, 0, 0, 0), (36, .invokevirtual 89, 52, 1, 3177), (39, .aload_n 0, 0, 0, 0), (40, .getfield 10, 11, 0, 3132), (43, .iload 4, 0, 0, 0), (45, .invokevirtual 89, 52, 1, 3177), (48, .aload_n 0, 0, 0, 0), (49, .getfield 10, 11, 0, 3132), (52, .iload 5, 0, 0, 0), (54, .invokevirtual 89, 52, 1, 3177), (57, .aload_n 0, 0, 0, 0), (58, .getfield 10, 11, 0, 3132), (61, .getfield 93, 4, 2, 1097), (64, .ireturn, 0, 0, 0)])
def zm54 : zMR := (⟨"RailwayHouse", "isReported", "(II)Z"⟩, prog_1_method_20_code, 3, some .boolean, ⟨2, 0, 0, 41⟩, 11,
  [(0, .iload_n 1, 0, 0, 0), (1, .iconst 1, 0, 0, 0), (2, .if_icmp .ne 14, 16, 0, 0), (5, .aload_n 0, 0, 0, 0), (6, .getfield 19, 11, 1, 3133), (9, .iload_n 2, 0, 0, 0), (10, .invokevirtual 168, 28, 1, 5129), (13, .goto 11, 24, 0, 0), (16, .aload_n 0, 0, 0, 0), (17, .getfield 19, 11, 1, 3133), (20, .iload_n 2, 0, 0, 0), (21, .invokevirtual 119, 48, 1, 4223), (24, .ireturn, 0, 0, 0)])
def zm55 : zMR := (⟨"RailwayHouse", "force", "(III)I"⟩, prog_1_method_18_code, 4, some .int, ⟨3, 0, 0, 63⟩, 11,
  [(0, .aload_n 0, 0, 0, 0), (1, .iload_n 1, 0, 0, 0), (2, .iload_n 2, 0, 0, 0), (3, .invokevirtual 191, 54, 2, 5157), (6, .ifCond .ne 5, 11, 0, 0), (9, .iconst (-1), 0, 0, 0), (10, .ireturn, 0, 0, 0)])
def zm56 : zMR := (⟨"RailwayHouse$Timetable", "hasHold", "(I)Z"⟩, prog_8_method_9_code, 2, some .boolean, ⟨1, 0, 0, 20⟩, 6,
  [(0, .iload_n 1, 0, 0, 0), (1, .ifCond .lt 15, 16, 0, 0), (4, .iload_n 1, 0, 0, 0), (5, .aload_n 0, 0, 0, 0), (6, .getfield 37, 6, 8, 2192), (9, .if_icmp .ge 7, 16, 0, 0), (16, .iconst 0, 0, 0, 0), (17, .ireturn, 0, 0, 0)])
def zm57 : zMR := (⟨"RailwayHouse", "give", "(I)I"⟩, prog_1_method_51_code, 2, some .int, ⟨2, 0, 0, 41⟩, 11,
  [(0, .aload_n 0, 0, 0, 0), (1, .getfield 58, 11, 6, 3138), (4, .iload_n 1, 0, 0, 0), (5, .invokevirtual 412, 56, 1, 7239), (8, .ifCond .ne 5, 13, 0, 0), (11, .iconst (-1), 0, 0, 0), (12, .ireturn, 0, 0, 0)])
def zm58 : zMR := (⟨"RailwayHouse$Timetable", "hasRun", "(I)Z"⟩, prog_8_method_3_code, 2, some .boolean, ⟨1, 0, 0, 20⟩, 6,
  [(0, .iload_n 1, 0, 0, 0), (1, .ifCond .lt 15, 16, 0, 0), (4, .iload_n 1, 0, 0, 0), (5, .aload_n 0, 0, 0, 0), (6, .getfield 18, 6, 2, 2179), (9, .if_icmp .ge 7, 16, 0, 0), (16, .iconst 0, 0, 0, 0), (17, .ireturn, 0, 0, 0)])
def zm59 : zMR := (⟨"RailwayHouse$Timetable", "hasStop", "(II)Z"⟩, prog_8_method_4_code, 3, some .boolean, ⟨2, 0, 0, 41⟩, 6,
  [(0, .aload_n 0, 0, 0, 0), (1, .iload_n 1, 0, 0, 0), (2, .invokevirtual 64, 58, 1, 7224), (5, .ifCond .eq 21, 26, 0, 0), (26, .iconst 0, 0, 0, 0), (27, .ireturn, 0, 0, 0)])
def zm60 : zMR := (⟨"RailwayHouse", "hold", "(IIII)I"⟩, prog_1_method_49_code, 6, some .int, ⟨3, 0, 0, 63⟩, 11,
  [(0, .aload_n 0, 0, 0, 0), (1, .getfield 58, 11, 6, 3138), (4, .iload_n 1, 0, 0, 0), (5, .iload_n 2, 0, 0, 0), (6, .invokevirtual 396, 59, 2, 7220), (9, .ifCond .eq 15, 24, 0, 0), (24, .iconst (-1), 0, 0, 0), (25, .ireturn, 0, 0, 0)])
def zm61 : zMR := (⟨"RailwayHouse", "holdAt", "(II)I"⟩, prog_1_method_52_code, 3, some .int, ⟨2, 0, 0, 41⟩, 11,
  [(0, .aload_n 0, 0, 0, 0), (1, .getfield 58, 11, 6, 3138), (4, .iload_n 1, 0, 0, 0), (5, .invokevirtual 412, 56, 1, 7239), (8, .ifCond .ne 5, 13, 0, 0), (11, .iconst (-1), 0, 0, 0), (12, .ireturn, 0, 0, 0)])
def zm62 : zMR := (⟨"RailwayHouse", "holder", "(I)I"⟩, prog_1_method_17_code, 2, some .int, ⟨2, 0, 0, 41⟩, 11,
  [(0, .aload_n 0, 0, 0, 0), (1, .getfield 19, 11, 1, 3133), (4, .iload_n 1, 0, 0, 0), (5, .invokevirtual 119, 48, 1, 4223), (8, .ifCond .eq 17, 25, 0, 0), (25, .iconst (-1), 0, 0, 0), (26, .ireturn, 0, 0, 0)])
def zm63 : zMR := (⟨"RailwayHouse$Layout", "hasSignal", "(I)Z"⟩, prog_4_method_8_code, 2, some .boolean, ⟨1, 0, 0, 20⟩, 2,
  [(0, .iload_n 1, 0, 0, 0), (1, .ifCond .lt 15, 16, 0, 0), (4, .iload_n 1, 0, 0, 0), (5, .aload_n 0, 0, 0, 0), (6, .getfield 37, 2, 1, 1047), (9, .if_icmp .ge 7, 16, 0, 0), (16, .iconst 0, 0, 0, 0), (17, .ireturn, 0, 0, 0)])
def zm64 : zMR := (⟨"RailwayHouse", "interpose", "(II)I"⟩, prog_1_method_33_code, 4, some .int, ⟨2, 0, 0, 41⟩, 11,
  [(0, .aload_n 0, 0, 0, 0), (1, .getfield 19, 11, 1, 3133), (4, .iload_n 1, 0, 0, 0), (5, .invokevirtual 126, 63, 1, 4235), (8, .ifCond .ne 5, 13, 0, 0), (11, .iconst (-1), 0, 0, 0), (12, .ireturn, 0, 0, 0)])
def zm65 : zMR := (⟨"RailwayHouse", "isStation", "(I)Z"⟩, prog_1_method_53_code, 1, some .boolean, ⟨1, 0, 0, 20⟩, 111,
  [(0, .iload_n 0, 0, 0, 0), (1, .ifCond .lt 13, 14, 0, 0), (4, .iload_n 0, 0, 0, 0), (5, .bipush 8, 0, 0, 0), (7, .if_icmp .ge 7, 14, 0, 0), (10, .iconst 1, 0, 0, 0), (11, .goto 4, 15, 0, 0), (14, .iconst 0, 0, 0, 0), (15, .ireturn, 0, 0, 0)])
def zm66 : zMR := (⟨"RailwayHouse", "isWithin", "(III)Z"⟩, prog_1_method_60_code, 3, some .boolean, ⟨1, 0, 0, 20⟩, 111,
  [(0, .iload_n 0, 0, 0, 0), (1, .iload_n 1, 0, 0, 0), (2, .if_icmp .lt 12, 14, 0, 0), (5, .iload_n 0, 0, 0, 0), (6, .iload_n 2, 0, 0, 0), (7, .if_icmp .gt 7, 14, 0, 0), (10, .iconst 1, 0, 0, 0), (11, .goto 4, 15, 0, 0), (14, .iconst 0, 0, 0, 0), (15, .ireturn, 0, 0, 0)])
def zm67 : zMR := (⟨"RailwayHouse$Journeys", "beginLevel", "()V"⟩, prog_3_method_5_code, 4, none, ⟨1, 0, 0, 20⟩, 1,
  [(0, .aload_n 0, 0, 0, 0), (1, .getfield 35, 1, 8, 3016), (4, .astore_n 1, 0, 0, 0), (5, .aload_n 0, 0, 0, 0), (6, .getfield 38, 1, 9, 3017), (9, .astore_n 2, 0, 0, 0), (10, .aload_n 0, 0, 0, 0), (11, .aload_n 0, 0, 0, 0), (12, .getfield 29, 1, 6, 3014), (15, .putfield 35, 1, 8, 3016), (18, .aload_n 0, 0, 0, 0), (19, .aload_n 0, 0, 0, 0), (20, .getfield 32, 1, 7, 3015), (23, .putfield 38, 1, 9, 3017), (26, .aload_n 0, 0, 0, 0), (27, .aload_n 1, 0, 0, 0), (28, .putfield 29, 1, 6, 3014), (31, .aload_n 0, 0, 0, 0), (32, .aload_n 2, 0, 0, 0), (33, .putfield 32, 1, 7, 3015), (36, .iconst 0, 0, 0, 0), (37, .istore_n 3, 0, 0, 0), (38, .iload_n 3, 0, 0, 0), (39, .bipush 96, 0, 0, 0), (41, .if_icmp .ge 16, 57, 0, 0), (44, .aload_n 0, 0, 0, 0), (45, .getfield 29, 1, 6, 3014), (48, .iload_n 3, 0, 0, 0), (49, .iconst 0, 0, 0, 0), (50, .iastore, 0, 0, 0), (51, .iinc 3 1, 0, 0, 0), (54, .goto (-16), 38, 0, 0), (57, .return_, 0, 0, 0)])
def zm68 : zMR := (⟨"RailwayHouse$Journeys", "harvest", "(II)V"⟩, prog_3_method_10_code, 6, none, ⟨1, 0, 0, 20⟩, 1,
  [(0, .iconst 0, 0, 0, 0), (1, .istore_n 3, 0, 0, 0), (2, .iload_n 3, 0, 0, 0), (3, .aload_n 0, 0, 0, 0), (4, .getfield 41, 1, 0, 3004), (7, .getfield 48, 6, 2, 2180), (10, .if_icmp .ge 94, 104, 0, 0), (104, .return_, 0, 0, 0)])
def zm69 : zMR := (⟨"RailwayHouse$Journeys", "findAll", "(III)I"⟩, prog_3_method_4_code, 7, some .int, ⟨2, 0, 0, 45⟩, 1,
  [(0, .aload_n 0, 0, 0, 0), (1, .iconst 0, 0, 0, 0), (2, .putfield 9, 1, 1, 3005), (5, .iconst 1, 0, 0, 0), (6, .istore 4, 0, 0, 0), (8, .iload 4, 0, 0, 0), (10, .iconst 4, 0, 0, 0), (11, .if_icmp .gt 94, 105, 0, 0), (14, .aload_n 0, 0, 0, 0), (15, .invokevirtual 45, 67, 0, 7158), (18, .iconst 0, 0, 0, 0), (19, .istore 5, 0, 0, 0), (21, .iload 5, 0, 0, 0), (23, .aload_n 0, 0, 0, 0), (24, .getfield 41, 1, 0, 3004), (27, .getfield 48, 6, 2, 2180), (30, .if_icmp .ge 62, 92, 0, 0), (92, .aload_n 0, 0, 0, 0), (93, .iload_n 2, 0, 0, 0), (94, .iload 4, 0, 0, 0), (96, .invokevirtual 62, 68, 2, 7184), (99, .iinc 4 1, 0, 0, 0), (102, .goto (-94), 8, 0, 0), (105, .aload_n 0, 0, 0, 0), (106, .getfield 9, 1, 1, 3005), (109, .ireturn, 0, 0, 0)])
def zm70 : zMR := (⟨"RailwayHouse", "journey", "(III)I"⟩, prog_1_method_46_code, 4, some .int, ⟨3, 0, 0, 71⟩, 11,
  [(0, .iload_n 1, 0, 0, 0), (1, .invokestatic 351, 65, 1, 7123), (4, .ifCond .eq 10, 14, 0, 0), (7, .iload_n 2, 0, 0, 0), (8, .invokestatic 351, 65, 1, 7123), (11, .ifCond .ne 5, 16, 0, 0), (14, .iconst (-1), 0, 0, 0), (15, .ireturn, 0, 0, 0), (16, .iload_n 3, 0, 0, 0), (17, .iconst 0, 0, 0, 0), (18, .sipush 10000, 0, 0, 0), (21, .invokestatic 242, 66, 3, 5237), (24, .ifCond .eq 8, 32, 0, 0), (27, .iload_n 1, 0, 0, 0), (28, .iload_n 2, 0, 0, 0), (29, .if_icmp .ne 6, 35, 0, 0), (32, .bipush (-2), 0, 0, 0), (34, .ireturn, 0, 0, 0), (35, .aload_n 0, 0, 0, 0), (36, .getfield 67, 11, 7, 3139), (39, .iload_n 1, 0, 0, 0), (40, .iload_n 2, 0, 0, 0), (41, .iload_n 3, 0, 0, 0), (42, .invokevirtual 379, 69, 3, 7154), (45, .ireturn, 0, 0, 0)])
def zm71 : zMR := (⟨"RailwayHouse$Yard", "trainOf", "(I)LRailwayHouse$Train;"⟩, prog_12_method_7_code, 2, some (.object "RailwayHouse$Train"), ⟨1, 0, 0, 20⟩, 10,
  [(0, .iload_n 1, 0, 0, 0), (1, .ifCond .lt 20, 21, 0, 0), (4, .iload_n 1, 0, 0, 0), (5, .aload_n 0, 0, 0, 0), (6, .getfield 31, 10, 6, 2127), (9, .if_icmp .ge 12, 21, 0, 0), (21, .aconst_null, 0, 0, 0), (22, .areturn, 0, 0, 0)])
def zm72 : zMR := (⟨"RailwayHouse", "leave", "(I)I"⟩, prog_1_method_30_code, 3, some .int, ⟨2, 0, 0, 41⟩, 11,
  [(0, .aload_n 0, 0, 0, 0), (1, .getfield 51, 11, 5, 3137), (4, .iload_n 1, 0, 0, 0), (5, .invokevirtual 265, 71, 1, 6099), (8, .astore_n 2, 0, 0, 0), (9, .aload_n 2, 0, 0, 0), (10, .ifnonnull 5, 15, 0, 0), (13, .iconst (-1), 0, 0, 0), (14, .ireturn, 0, 0, 0)])
def zm73 : zMR := (⟨"RailwayHouse$Journeys", "hasOption", "(I)Z"⟩, prog_3_method_2_code, 2, some .boolean, ⟨1, 0, 0, 20⟩, 1,
  [(0, .iload_n 1, 0, 0, 0), (1, .ifCond .lt 15, 16, 0, 0), (4, .iload_n 1, 0, 0, 0), (5, .aload_n 0, 0, 0, 0), (6, .getfield 9, 1, 1, 3005), (9, .if_icmp .ge 7, 16, 0, 0), (16, .iconst 0, 0, 0, 0), (17, .ireturn, 0, 0, 0)])
def zm74 : zMR := (⟨"RailwayHouse", "leg", "(III)I"⟩, prog_1_method_48_code, 4, some .int, ⟨2, 0, 0, 41⟩, 11,
  [(0, .aload_n 0, 0, 0, 0), (1, .getfield 67, 11, 7, 3139), (4, .iload_n 1, 0, 0, 0), (5, .invokevirtual 381, 73, 1, 7204), (8, .ifCond .ne 5, 13, 0, 0), (11, .iconst (-1), 0, 0, 0), (12, .ireturn, 0, 0, 0)])
def zm75 : zMR := (⟨"RailwayHouse", "lie", "(I)I"⟩, prog_1_method_25_code, 2, some .int, ⟨2, 0, 0, 41⟩, 11,
  [(0, .aload_n 0, 0, 0, 0), (1, .getfield 19, 11, 1, 3133), (4, .iload_n 1, 0, 0, 0), (5, .invokevirtual 168, 28, 1, 5129), (8, .ifCond .eq 15, 23, 0, 0), (23, .iconst (-1), 0, 0, 0), (24, .ireturn, 0, 0, 0)])
def zm76 : zMR := (⟨"RailwayHouse$Line", "add", "(IIIII)I"⟩, prog_5_method_2_code, 6, some .int, ⟨1, 0, 0, 20⟩, 3,
  [(0, .aload_n 0, 0, 0, 0), (1, .getfield 16, 3, 2, 3050), (4, .aload_n 0, 0, 0, 0), (5, .getfield 7, 3, 0, 3046), (8, .iload_n 1, 0, 0, 0), (9, .iastore, 0, 0, 0), (10, .aload_n 0, 0, 0, 0), (11, .getfield 20, 3, 3, 3051), (14, .aload_n 0, 0, 0, 0), (15, .getfield 7, 3, 0, 3046), (18, .iload_n 2, 0, 0, 0), (19, .iastore, 0, 0, 0), (20, .aload_n 0, 0, 0, 0), (21, .getfield 23, 3, 4, 3052), (24, .aload_n 0, 0, 0, 0), (25, .getfield 7, 3, 0, 3046), (28, .iload_n 3, 0, 0, 0), (29, .iastore, 0, 0, 0), (30, .aload_n 0, 0, 0, 0), (31, .getfield 26, 3, 5, 3053), (34, .aload_n 0, 0, 0, 0), (35, .getfield 7, 3, 0, 3046), (38, .iload 4, 0, 0, 0), (40, .iastore, 0, 0, 0), (41, .aload_n 0, 0, 0, 0), (42, .getfield 29, 3, 6, 3054), (45, .aload_n 0, 0, 0, 0), (46, .getfield 7, 3, 0, 3046), (49, .iload 5, 0, 0, 0), (51, .iastore, 0, 0, 0), (52, .aload_n 0, 0, 0, 0), (53, .dup, 0, 0, 0), (54, .getfield 7, 3, 0, 3046), (57, .iconst 1, 0, 0, 0), (58, .iadd, 0, 0, 0), (59, .putfield 7, 3, 0, 3046), (62, .aload_n 0, 0, 0, 0), (63, .getfield 7, 3, 0, 3046), (66, .iconst 1, 0, 0, 0), (67, .isub, 0, 0, 0), (68, .ireturn, 0, 0, 0)])
def zm77 : zMR := (⟨"RailwayHouse", "line", "(IIIII)I"⟩, prog_1_method_54_code, 6, some .int, ⟨2, 0, 0, 45⟩, 11,
  [(0, .iload_n 1, 0, 0, 0), (1, .iconst 0, 0, 0, 0), (2, .iconst 1, 0, 0, 0), (3, .invokestatic 242, 66, 3, 5237), (6, .ifCond .eq 47, 53, 0, 0), (9, .iload_n 2, 0, 0, 0), (10, .iconst 0, 0, 0, 0), (11, .sipush 1000, 0, 0, 0), (14, .invokestatic 242, 66, 3, 5237), (17, .ifCond .eq 36, 53, 0, 0), (20, .iload_n 3, 0, 0, 0), (21, .iconst 1, 0, 0, 0), (22, .bipush 100, 0, 0, 0), (24, .invokestatic 242, 66, 3, 5237), (27, .ifCond .eq 26, 53, 0, 0), (30, .iload 4, 0, 0, 0), (32, .iconst 0, 0, 0, 0), (33, .sipush 2000, 0, 0, 0), (36, .invokestatic 242, 66, 3, 5237), (39, .ifCond .eq 14, 53, 0, 0), (42, .iload 5, 0, 0, 0), (44, .iconst 0, 0, 0, 0), (45, .bipush 20, 0, 0, 0), (47, .invokestatic 242, 66, 3, 5237), (50, .ifCond .ne 6, 56, 0, 0), (53, .bipush (-2), 0, 0, 0), (55, .ireturn, 0, 0, 0), (56, .aload_n 0, 0, 0, 0), (57, .getfield 74, 11, 8, 3140), (60, .getfield 427, 3, 0, 3047), (63, .bipush 7, 0, 0, 0), (65, .if_icmp .lt 8, 73, 0, 0), (73, .aload_n 0, 0, 0, 0), (74, .getfield 74, 11, 8, 3140), (77, .iload_n 1, 0, 0, 0), (78, .iload_n 2, 0, 0, 0), (79, .iload_n 3, 0, 0, 0), (80, .iload 4, 0, 0, 0), (82, .iload 5, 0, 0, 0), (84, .invokevirtual 430, 76, 5, 8016), (87, .ireturn, 0, 0, 0)])
def zm78 : zMR := (⟨"RailwayHouse$Reader", "fail", "(I)V"⟩, prog_6_method_6_code, 2, none, ⟨1, 0, 0, 20⟩, 4,
  [(0, .aload_n 0, 0, 0, 0), (1, .getfield 26, 4, 3, 1098), (4, .ifCond .ne 16, 20, 0, 0), (7, .aload_n 0, 0, 0, 0), (8, .iload_n 1, 0, 0, 0), (9, .putfield 26, 4, 3, 1098), (12, .aload_n 0, 0, 0, 0), (13, .aload_n 0, 0, 0, 0), (14, .getfield 38, 4, 7, 1104), (17, .putfield 29, 4, 4, 1100), (20, .return_, 0, 0, 0)])
def zm79 : zMR := (⟨"RailwayHouse$Reader", "checkWhole", "()V"⟩, prog_6_method_21_code, 2, none, ⟨2, 0, 0, 41⟩, 4,
  [(0, .aload_n 0, 0, 0, 0), (1, .getfield 18, 4, 1, 1094), (4, .getfield 111, 2, 0, 1046), (7, .ifCond .ne 9, 16, 0, 0), (10, .aload_n 0, 0, 0, 0), (11, .bipush 8, 0, 0, 0), (13, .invokevirtual 72, 78, 1, 3209), (16, .iconst 0, 0, 0, 0), (17, .istore_n 1, 0, 0, 0), (18, .iload_n 1, 0, 0, 0), (19, .aload_n 0, 0, 0, 0), (20, .getfield 18, 4, 1, 1094), (23, .getfield 137, 2, 1, 1049), (26, .if_icmp .ge 37, 63, 0, 0), (63, .return_, 0, 0, 0)])
def zm80 : zMR := (⟨"RailwayHouse$Reader", "scan", "()V"⟩, prog_6_method_7_code, 2, none, ⟨1, 0, 0, 20⟩, 4,
  [(0, .aload_n 0, 0, 0, 0), (1, .getfield 26, 4, 3, 1098), (4, .ifCond .eq 4, 8, 0, 0), (8, .aload_n 0, 0, 0, 0), (9, .getfield 32, 4, 5, 1102), (12, .istore_n 1, 0, 0, 0), (13, .iload_n 1, 0, 0, 0), (14, .aload_n 0, 0, 0, 0), (15, .getfield 22, 4, 2, 1096), (18, .if_icmp .ge 31, 49, 0, 0), (49, .aload_n 0, 0, 0, 0), (50, .iload_n 1, 0, 0, 0), (51, .putfield 38, 4, 7, 1104), (54, .aload_n 0, 0, 0, 0), (55, .iload_n 1, 0, 0, 0), (56, .putfield 32, 4, 5, 1102), (59, .iload_n 1, 0, 0, 0), (60, .aload_n 0, 0, 0, 0), (61, .getfield 22, 4, 2, 1096), (64, .if_icmp .lt 11, 75, 0, 0), (67, .aload_n 0, 0, 0, 0), (68, .iconst 0, 0, 0, 0), (69, .putfield 35, 4, 6, 1103), (72, .goto 72, 144, 0, 0), (144, .return_, 0, 0, 0)])
def zm81 : zMR := (⟨"RailwayHouse$Reader", "readAll", "()Z"⟩, prog_6_method_5_code, 2, some .boolean, ⟨3, 0, 0, 62⟩, 4,
  [(0, .aload_n 0, 0, 0, 0), (1, .getfield 18, 4, 1, 1094), (4, .invokevirtual 48, 34, 0, 3194), (7, .aload_n 0, 0, 0, 0), (8, .iconst 0, 0, 0, 0), (9, .putfield 32, 4, 5, 1102), (12, .aload_n 0, 0, 0, 0), (13, .iconst 0, 0, 0, 0), (14, .putfield 26, 4, 3, 1098), (17, .aload_n 0, 0, 0, 0), (18, .bipush (-9), 0, 0, 0), (20, .putfield 29, 4, 4, 1100), (23, .iconst 0, 0, 0, 0), (24, .istore_n 1, 0, 0, 0), (25, .iload_n 1, 0, 0, 0), (26, .aload_n 0, 0, 0, 0), (27, .getfield 22, 4, 2, 1096), (30, .if_icmp .gt 55, 85, 0, 0), (33, .aload_n 0, 0, 0, 0), (34, .getfield 26, 4, 3, 1098), (37, .ifCond .ne 48, 85, 0, 0), (40, .aload_n 0, 0, 0, 0), (41, .invokevirtual 51, 80, 0, 3198), (44, .aload_n 0, 0, 0, 0), (45, .getfield 26, 4, 3, 1098), (48, .ifCond .ne 27, 75, 0, 0), (51, .aload_n 0, 0, 0, 0), (52, .getfield 35, 4, 6, 1103), (55, .ifCond .ne 20, 75, 0, 0), (58, .aload_n 0, 0, 0, 0), (59, .invokevirtual 54, 79, 0, 3220), (62, .aload_n 0, 0, 0, 0), (63, .getfield 26, 4, 3, 1098), (66, .ifCond .ne 7, 73, 0, 0), (73, .iconst 0, 0, 0, 0), (74, .ireturn, 0, 0, 0)])
def zm82 : zMR := (⟨"RailwayHouse", "load", "()I"⟩, prog_1_method_4_code, 1, some .int, ⟨4, 0, 0, 83⟩, 11,
  [(0, .aload_n 0, 0, 0, 0), (1, .getfield 10, 11, 0, 3132), (4, .invokevirtual 97, 81, 0, 3190), (7, .ifCond .ne 14, 21, 0, 0), (10, .bipush (-10), 0, 0, 0), (12, .aload_n 0, 0, 0, 0), (13, .getfield 10, 11, 0, 3132), (16, .getfield 101, 4, 3, 1099), (19, .isub, 0, 0, 0), (20, .ireturn, 0, 0, 0)])
def zm83 : zMR := (⟨"RailwayHouse", "move", "(II)I"⟩, prog_1_method_15_code, 3, some .int, ⟨2, 0, 0, 41⟩, 11,
  [(0, .aload_n 0, 0, 0, 0), (1, .getfield 19, 11, 1, 3133), (4, .iload_n 1, 0, 0, 0), (5, .invokevirtual 168, 28, 1, 5129), (8, .ifCond .ne 5, 13, 0, 0), (11, .iconst (-1), 0, 0, 0), (12, .ireturn, 0, 0, 0)])
def zm84 : zMR := (⟨"RailwayHouse", "option", "(II)I"⟩, prog_1_method_47_code, 3, some .int, ⟨2, 0, 0, 41⟩, 11,
  [(0, .aload_n 0, 0, 0, 0), (1, .getfield 67, 11, 7, 3139), (4, .iload_n 1, 0, 0, 0), (5, .invokevirtual 381, 73, 1, 7204), (8, .ifCond .ne 5, 13, 0, 0), (11, .iconst (-1), 0, 0, 0), (12, .ireturn, 0, 0, 0)])
def zm85 : zMR := (⟨"RailwayHouse", "pay", "(I)I"⟩, prog_1_method_50_code, 2, some .int, ⟨2, 0, 0, 41⟩, 11,
  [(0, .aload_n 0, 0, 0, 0), (1, .getfield 58, 11, 6, 3138), (4, .iload_n 1, 0, 0, 0), (5, .invokevirtual 412, 56, 1, 7239), (8, .ifCond .ne 5, 13, 0, 0), (11, .iconst (-1), 0, 0, 0), (12, .ireturn, 0, 0, 0)])
def zm86 : zMR := (⟨"RailwayHouse", "place", "()I"⟩, prog_1_method_5_code, 1, some .int, ⟨1, 0, 0, 20⟩, 11,
  [(0, .aload_n 0, 0, 0, 0), (1, .getfield 10, 11, 0, 3132), (4, .getfield 116, 4, 4, 1101), (7, .ireturn, 0, 0, 0)])
def zm87 : zMR := (⟨"RailwayHouse", "release", "(I)I"⟩, prog_1_method_14_code, 2, some .int, ⟨2, 0, 0, 41⟩, 11,
  [(0, .aload_n 0, 0, 0, 0), (1, .getfield 28, 11, 2, 3134), (4, .iload_n 1, 0, 0, 0), (5, .invokevirtual 138, 30, 1, 5006), (8, .ifCond .eq 16, 24, 0, 0), (24, .iconst (-1), 0, 0, 0), (25, .ireturn, 0, 0, 0)])
def zm88 : zMR := (⟨"RailwayHouse$Vote", "voters", "()I"⟩, prog_10_method_5_code, 3, some .int, ⟨1, 0, 0, 20⟩, 8,
  [(0, .iconst 0, 0, 0, 0), (1, .istore_n 1, 0, 0, 0), (2, .iconst 0, 0, 0, 0), (3, .istore_n 2, 0, 0, 0), (4, .iload_n 2, 0, 0, 0), (5, .iconst 3, 0, 0, 0), (6, .if_icmp .ge 29, 35, 0, 0), (9, .iload_n 1, 0, 0, 0), (10, .aload_n 0, 0, 0, 0), (11, .getfield 11, 8, 2, 2076), (14, .iload_n 2, 0, 0, 0), (15, .aaload, 0, 0, 0), (16, .getfield 59, 0, 13, 2042), (19, .ifCond .eq 7, 26, 0, 0), (22, .iconst 1, 0, 0, 0), (23, .goto 4, 27, 0, 0), (27, .iadd, 0, 0, 0), (28, .istore_n 1, 0, 0, 0), (29, .iinc 2 1, 0, 0, 0), (32, .goto (-28), 4, 0, 0), (35, .iload_n 1, 0, 0, 0), (36, .ireturn, 0, 0, 0)])
def zm89 : zMR := (⟨"RailwayHouse$Vote", "allVote", "()Z"⟩, prog_10_method_6_code, 1, some .boolean, ⟨2, 0, 0, 42⟩, 8,
  [(0, .aload_n 0, 0, 0, 0), (1, .invokevirtual 62, 88, 0, 5108), (4, .iconst 3, 0, 0, 0), (5, .if_icmp .ne 7, 12, 0, 0), (8, .iconst 1, 0, 0, 0), (9, .goto 4, 13, 0, 0), (13, .ireturn, 0, 0, 0)])
def zm90 : zMR := (⟨"RailwayHouse", "reset", "()I"⟩, prog_1_method_23_code, 1, some .int, ⟨3, 0, 0, 62⟩, 11,
  [(0, .aload_n 0, 0, 0, 0), (1, .getfield 44, 11, 4, 3136), (4, .getfield 210, 8, 6, 2083), (7, .ifCond .ne 23, 30, 0, 0), (10, .aload_n 0, 0, 0, 0), (11, .getfield 44, 11, 4, 3136), (14, .getfield 213, 8, 5, 2081), (17, .ifCond .ne 16, 33, 0, 0), (20, .aload_n 0, 0, 0, 0), (21, .getfield 44, 11, 4, 3136), (24, .invokevirtual 216, 89, 0, 5186), (27, .ifCond .eq 6, 33, 0, 0), (30, .bipush (-3), 0, 0, 0), (32, .ireturn, 0, 0, 0)])
def zm91 : zMR := (⟨"RailwayHouse", "route", "(II)I"⟩, prog_1_method_8_code, 3, some .int, ⟨2, 0, 0, 41⟩, 11,
  [(0, .aload_n 0, 0, 0, 0), (1, .getfield 28, 11, 2, 3134), (4, .iload_n 1, 0, 0, 0), (5, .invokevirtual 138, 30, 1, 5006), (8, .ifCond .ne 5, 13, 0, 0), (11, .iconst (-1), 0, 0, 0), (12, .ireturn, 0, 0, 0)])
def zm92 : zMR := (⟨"RailwayHouse", "routeAt", "(III)I"⟩, prog_1_method_16_code, 4, some .int, ⟨2, 0, 0, 41⟩, 11,
  [(0, .iload_n 1, 0, 0, 0), (1, .invokestatic 171, 32, 1, 5134), (4, .ifCond .eq 14, 18, 0, 0), (7, .aload_n 0, 0, 0, 0), (8, .getfield 28, 11, 2, 3134), (11, .iload_n 2, 0, 0, 0), (12, .invokevirtual 138, 30, 1, 5006), (15, .ifCond .ne 5, 20, 0, 0), (18, .iconst (-1), 0, 0, 0), (19, .ireturn, 0, 0, 0)])
def zm93 : zMR := (⟨"RailwayHouse", "routeNeed", "(II)I"⟩, prog_1_method_10_code, 3, some .int, ⟨2, 0, 0, 41⟩, 11,
  [(0, .aload_n 0, 0, 0, 0), (1, .getfield 28, 11, 2, 3134), (4, .iload_n 1, 0, 0, 0), (5, .invokevirtual 138, 30, 1, 5006), (8, .ifCond .ne 5, 13, 0, 0), (11, .iconst (-1), 0, 0, 0), (12, .ireturn, 0, 0, 0)])
def zm94 : zMR := (⟨"RailwayHouse", "routeSection", "(II)I"⟩, prog_1_method_9_code, 3, some .int, ⟨2, 0, 0, 41⟩, 11,
  [(0, .aload_n 0, 0, 0, 0), (1, .getfield 28, 11, 2, 3134), (4, .iload_n 1, 0, 0, 0), (5, .invokevirtual 138, 30, 1, 5006), (8, .ifCond .ne 5, 13, 0, 0), (11, .iconst (-1), 0, 0, 0), (12, .ireturn, 0, 0, 0)])
def zm95 : zMR := (⟨"RailwayHouse$Timetable", "addRun", "(I)I"⟩, prog_8_method_5_code, 2, some .int, ⟨1, 0, 0, 20⟩, 6,
  [(0, .aload_n 0, 0, 0, 0), (1, .getfield 22, 6, 3, 2182), (4, .aload_n 0, 0, 0, 0), (5, .getfield 18, 6, 2, 2179), (8, .iload_n 1, 0, 0, 0), (9, .iastore, 0, 0, 0), (10, .aload_n 0, 0, 0, 0), (11, .getfield 25, 6, 4, 2183), (14, .aload_n 0, 0, 0, 0), (15, .getfield 18, 6, 2, 2179), (18, .iconst 0, 0, 0, 0), (19, .iastore, 0, 0, 0), (20, .aload_n 0, 0, 0, 0), (21, .dup, 0, 0, 0), (22, .getfield 18, 6, 2, 2179), (25, .iconst 1, 0, 0, 0), (26, .iadd, 0, 0, 0), (27, .putfield 18, 6, 2, 2179), (30, .aload_n 0, 0, 0, 0), (31, .getfield 18, 6, 2, 2179), (34, .iconst 1, 0, 0, 0), (35, .isub, 0, 0, 0), (36, .ireturn, 0, 0, 0)])
def zm96 : zMR := (⟨"RailwayHouse", "run", "(I)I"⟩, prog_1_method_44_code, 2, some .int, ⟨2, 0, 0, 42⟩, 11,
  [(0, .iload_n 1, 0, 0, 0), (1, .iconst 1, 0, 0, 0), (2, .bipush 20, 0, 0, 0), (4, .invokestatic 242, 66, 3, 5237), (7, .ifCond .ne 6, 13, 0, 0), (10, .bipush (-2), 0, 0, 0), (12, .ireturn, 0, 0, 0), (13, .aload_n 0, 0, 0, 0), (14, .getfield 58, 11, 6, 3138), (17, .getfield 360, 6, 2, 2181), (20, .bipush 12, 0, 0, 0), (22, .if_icmp .lt 8, 30, 0, 0), (30, .aload_n 0, 0, 0, 0), (31, .getfield 58, 11, 6, 3138), (34, .iload_n 1, 0, 0, 0), (35, .invokevirtual 363, 95, 1, 7130), (38, .ireturn, 0, 0, 0)])
def zm97 : zMR := (⟨"RailwayHouse", "section", "(II)I"⟩, prog_1_method_6_code, 3, some .int, ⟨2, 0, 0, 41⟩, 11,
  [(0, .aload_n 0, 0, 0, 0), (1, .getfield 19, 11, 1, 3133), (4, .iload_n 1, 0, 0, 0), (5, .invokevirtual 119, 48, 1, 4223), (8, .ifCond .ne 5, 13, 0, 0), (11, .iconst (-1), 0, 0, 0), (12, .ireturn, 0, 0, 0)])
def zm98 : zMR := (⟨"RailwayHouse", "set", "(I)I"⟩, prog_1_method_12_code, 2, some .int, ⟨2, 0, 0, 41⟩, 11,
  [(0, .aload_n 0, 0, 0, 0), (1, .getfield 28, 11, 2, 3134), (4, .iload_n 1, 0, 0, 0), (5, .invokevirtual 138, 30, 1, 5006), (8, .ifCond .eq 16, 24, 0, 0), (24, .iconst (-1), 0, 0, 0), (25, .ireturn, 0, 0, 0)])
def zm99 : zMR := (⟨"RailwayHouse", "signal", "(II)I"⟩, prog_1_method_7_code, 3, some .int, ⟨2, 0, 0, 41⟩, 11,
  [(0, .aload_n 0, 0, 0, 0), (1, .getfield 19, 11, 1, 3133), (4, .iload_n 1, 0, 0, 0), (5, .invokevirtual 126, 63, 1, 4235), (8, .ifCond .ne 5, 13, 0, 0), (11, .iconst (-1), 0, 0, 0), (12, .ireturn, 0, 0, 0)])
def zm100 : zMR := (⟨"RailwayHouse", "stand", "(IZ)I"⟩, prog_1_method_28_code, 5, some .int, ⟨2, 0, 0, 41⟩, 11,
  [(0, .aload_n 0, 0, 0, 0), (1, .getfield 51, 11, 5, 3137), (4, .iload_n 1, 0, 0, 0), (5, .invokevirtual 265, 71, 1, 6099), (8, .astore_n 3, 0, 0, 0), (9, .aload_n 3, 0, 0, 0), (10, .ifnonnull 5, 15, 0, 0), (13, .iconst (-1), 0, 0, 0), (14, .ireturn, 0, 0, 0)])
def zm101 : zMR := (⟨"RailwayHouse", "start", "()I"⟩, prog_1_method_42_code, 1, some .int, ⟨1, 0, 0, 20⟩, 11,
  [(0, .aload_n 0, 0, 0, 0), (1, .getfield 44, 11, 4, 3136), (4, .getfield 210, 8, 6, 2083), (7, .ifCond .ne 6, 13, 0, 0), (10, .bipush (-3), 0, 0, 0), (12, .ireturn, 0, 0, 0)])
def zm102 : zMR := (⟨"RailwayHouse", "station", "(III)I"⟩, prog_1_method_43_code, 4, some .int, ⟨2, 0, 0, 42⟩, 11,
  [(0, .iload_n 1, 0, 0, 0), (1, .invokestatic 351, 65, 1, 7123), (4, .ifCond .ne 5, 9, 0, 0), (7, .iconst (-1), 0, 0, 0), (8, .ireturn, 0, 0, 0), (9, .iload_n 2, 0, 0, 0), (10, .iconst 0, 0, 0, 0), (11, .bipush 60, 0, 0, 0), (13, .invokestatic 242, 66, 3, 5237), (16, .ifCond .eq 13, 29, 0, 0), (19, .iload_n 3, 0, 0, 0), (20, .iconst 0, 0, 0, 0), (21, .bipush 9, 0, 0, 0), (23, .invokestatic 242, 66, 3, 5237), (26, .ifCond .ne 6, 32, 0, 0), (29, .bipush (-2), 0, 0, 0), (31, .ireturn, 0, 0, 0), (32, .aload_n 0, 0, 0, 0), (33, .getfield 58, 11, 6, 3138), (36, .getfield 354, 6, 0, 2176), (39, .iload_n 1, 0, 0, 0), (40, .iload_n 2, 0, 0, 0), (41, .iastore, 0, 0, 0), (42, .aload_n 0, 0, 0, 0), (43, .getfield 58, 11, 6, 3138), (46, .getfield 357, 6, 1, 2178), (49, .iload_n 1, 0, 0, 0), (50, .iload_n 3, 0, 0, 0), (51, .iastore, 0, 0, 0), (52, .iconst 1, 0, 0, 0), (53, .ireturn, 0, 0, 0)])
def zm103 : zMR := (⟨"RailwayHouse", "stopAt", "(IIII)I"⟩, prog_1_method_45_code, 5, some .int, ⟨2, 0, 0, 41⟩, 11,
  [(0, .aload_n 0, 0, 0, 0), (1, .getfield 58, 11, 6, 3138), (4, .iload_n 1, 0, 0, 0), (5, .invokevirtual 366, 58, 1, 7138), (8, .ifCond .eq 10, 18, 0, 0), (18, .iconst (-1), 0, 0, 0), (19, .ireturn, 0, 0, 0)])
def zm104 : zMR := (⟨"RailwayHouse$Vote", "writeDisk", "()I"⟩, prog_10_method_12_code, 3, some .int, ⟨2, 0, 0, 41⟩, 8,
  [(0, .aload_n 0, 0, 0, 0), (1, .iconst 0, 0, 0, 0), (2, .putfield 21, 8, 4, 2079), (5, .aload_n 0, 0, 0, 0), (6, .invokevirtual 90, 22, 0, 5212), (9, .astore_n 1, 0, 0, 0), (10, .iconst 0, 0, 0, 0), (11, .istore_n 2, 0, 0, 0), (12, .iload_n 2, 0, 0, 0), (13, .aload_n 0, 0, 0, 0), (14, .getfield 41, 8, 0, 2074), (17, .getfield 107, 9, 1, 1136), (20, .if_icmp .ge 42, 62, 0, 0), (62, .aload_n 0, 0, 0, 0), (63, .getfield 21, 8, 4, 2079), (66, .ireturn, 0, 0, 0)])
def zm105 : zMR := (⟨"RailwayHouse", "sync", "()I"⟩, prog_1_method_40_code, 1, some .int, ⟨3, 0, 0, 63⟩, 11,
  [(0, .aload_n 0, 0, 0, 0), (1, .getfield 44, 11, 4, 3136), (4, .getfield 210, 8, 6, 2083), (7, .ifCond .ne 13, 20, 0, 0), (10, .aload_n 0, 0, 0, 0), (11, .getfield 44, 11, 4, 3136), (14, .getfield 213, 8, 5, 2081), (17, .ifCond .eq 6, 23, 0, 0), (23, .aload_n 0, 0, 0, 0), (24, .getfield 44, 11, 4, 3136), (27, .invokevirtual 342, 104, 0, 7092), (30, .ireturn, 0, 0, 0)])
def zm106 : zMR := (⟨"RailwayHouse", "tick", "(I)I"⟩, prog_1_method_32_code, 3, some .int, ⟨1, 0, 0, 20⟩, 11,
  [(0, .iload_n 1, 0, 0, 0), (1, .iconst 1, 0, 0, 0), (2, .if_icmp .lt 9, 11, 0, 0), (5, .iload_n 1, 0, 0, 0), (6, .bipush 50, 0, 0, 0), (8, .if_icmp .le 6, 14, 0, 0), (11, .bipush (-2), 0, 0, 0), (13, .ireturn, 0, 0, 0), (14, .aload_n 0, 0, 0, 0), (15, .getfield 19, 11, 1, 3133), (18, .getfield 113, 2, 0, 1044), (21, .ifCond .ne 6, 27, 0, 0), (24, .bipush (-3), 0, 0, 0), (26, .ireturn, 0, 0, 0)])
def zm107 : zMR := (⟨"RailwayHouse", "train", "(II)I"⟩, prog_1_method_29_code, 4, some .int, ⟨2, 0, 0, 41⟩, 11,
  [(0, .aload_n 0, 0, 0, 0), (1, .getfield 51, 11, 5, 3137), (4, .iload_n 1, 0, 0, 0), (5, .invokevirtual 265, 71, 1, 6099), (8, .astore_n 3, 0, 0, 0), (9, .aload_n 3, 0, 0, 0), (10, .ifnonnull 5, 15, 0, 0), (13, .iconst (-1), 0, 0, 0), (14, .ireturn, 0, 0, 0)])
def zm108 : zMR := (⟨"RailwayHouse", "trainOn", "(I)I"⟩, prog_1_method_31_code, 2, some .int, ⟨2, 0, 0, 41⟩, 11,
  [(0, .aload_n 0, 0, 0, 0), (1, .getfield 19, 11, 1, 3133), (4, .iload_n 1, 0, 0, 0), (5, .invokevirtual 119, 48, 1, 4223), (8, .ifCond .eq 14, 22, 0, 0), (22, .iconst (-1), 0, 0, 0), (23, .ireturn, 0, 0, 0)])
def zm109 : zMR := (⟨"RailwayHouse", "turn", "(II)I"⟩, prog_1_method_57_code, 3, some .int, ⟨1, 0, 0, 20⟩, 11,
  [(0, .iload_n 2, 0, 0, 0), (1, .ifCond .lt 8, 9, 0, 0), (4, .iload_n 2, 0, 0, 0), (5, .iconst 2, 0, 0, 0), (6, .if_icmp .le 6, 12, 0, 0), (9, .bipush (-2), 0, 0, 0), (11, .ireturn, 0, 0, 0), (12, .iload_n 1, 0, 0, 0), (13, .ifCond .lt 14, 27, 0, 0), (16, .iload_n 1, 0, 0, 0), (17, .aload_n 0, 0, 0, 0), (18, .getfield 74, 11, 8, 3140), (21, .getfield 436, 3, 1, 3049), (24, .if_icmp .lt 8, 32, 0, 0), (27, .bipush (-9), 0, 0, 0), (29, .goto 12, 41, 0, 0), (41, .ireturn, 0, 0, 0)])
def zm110 : zMR := (⟨"RailwayHouse", "used", "(II)I"⟩, prog_1_method_19_code, 3, some .int, ⟨3, 0, 0, 63⟩, 11,
  [(0, .aload_n 0, 0, 0, 0), (1, .iload_n 1, 0, 0, 0), (2, .iload_n 2, 0, 0, 0), (3, .invokevirtual 191, 54, 2, 5157), (6, .ifCond .ne 5, 11, 0, 0), (9, .iconst (-1), 0, 0, 0), (10, .ireturn, 0, 0, 0)])
def zm111 : zMR := (⟨"RailwayHouseModel", "routeNow", "(I)I"⟩, prog_14_method_73_code, 3, some .int, ⟨1, 0, 0, 20⟩, 12,
  [(0, .aload_n 0, 0, 0, 0), (1, .getfield 129, 12, 61, 8171), (4, .iload_n 1, 0, 0, 0), (5, .iaload, 0, 0, 0), (6, .iconst 1, 0, 0, 0), (7, .if_icmp .eq 13, 20, 0, 0), (10, .aload_n 0, 0, 0, 0), (11, .getfield 129, 12, 61, 8171), (14, .iload_n 1, 0, 0, 0), (15, .iaload, 0, 0, 0), (16, .iconst 4, 0, 0, 0), (17, .if_icmp .le 12, 29, 0, 0), (29, .iconst 0, 0, 0, 0), (30, .istore_n 2, 0, 0, 0), (31, .aload_n 0, 0, 0, 0), (32, .getfield 129, 12, 61, 8171), (35, .iload_n 1, 0, 0, 0), (36, .iaload, 0, 0, 0), (37, .iload_n 2, 0, 0, 0), (38, .iconst 3, 0, 0, 0), (39, .ishl, 0, 0, 0), (40, .ior, 0, 0, 0), (41, .aload_n 0, 0, 0, 0), (42, .getfield 135, 12, 63, 8173), (45, .iload_n 1, 0, 0, 0), (46, .baload, 0, 0, 0), (47, .ifCond .eq 7, 54, 0, 0), (54, .iconst 0, 0, 0, 0), (55, .bipush 8, 0, 0, 0), (57, .ishl, 0, 0, 0), (58, .ior, 0, 0, 0), (59, .aload_n 0, 0, 0, 0), (60, .getfield 138, 12, 64, 8174), (63, .iload_n 1, 0, 0, 0), (64, .baload, 0, 0, 0), (65, .ifCond .eq 7, 72, 0, 0), (72, .iconst 0, 0, 0, 0), (73, .bipush 9, 0, 0, 0), (75, .ishl, 0, 0, 0), (76, .ior, 0, 0, 0), (77, .aload_n 0, 0, 0, 0), (78, .getfield 141, 12, 65, 8175), (81, .iload_n 1, 0, 0, 0), (82, .iaload, 0, 0, 0), (83, .bipush 10, 0, 0, 0), (85, .ishl, 0, 0, 0), (86, .ior, 0, 0, 0), (87, .aload_n 0, 0, 0, 0), (88, .getfield 144, 12, 66, 8176), (91, .iload_n 1, 0, 0, 0), (92, .iaload, 0, 0, 0), (93, .bipush 14, 0, 0, 0), (95, .ishl, 0, 0, 0), (96, .ior, 0, 0, 0), (97, .ireturn, 0, 0, 0)])
def zm112 : zMR := (⟨"RailwayHouseModel", "layRow", "(I)V"⟩, prog_14_method_128_code, 2, none, ⟨2, 0, 0, 42⟩, 12,
  [(0, .aload_n 0, 0, 0, 0), (1, .getfield 165, 12, 73, 8183), (4, .iload_n 1, 0, 0, 0), (5, .aload_n 0, 0, 0, 0), (6, .iload_n 1, 0, 0, 0), (7, .invokevirtual 655, 111, 1, 8102), (10, .iastore, 0, 0, 0), (11, .aload_n 0, 0, 0, 0), (12, .getfield 168, 12, 74, 8184), (15, .iload_n 1, 0, 0, 0), (16, .aload_n 0, 0, 0, 0), (17, .getfield 165, 12, 73, 8183), (20, .iload_n 1, 0, 0, 0), (21, .iaload, 0, 0, 0), (22, .iastore, 0, 0, 0), (23, .return_, 0, 0, 0)])
def zm113 : zMR := (⟨"RailwayHouseModel", "none", "(I)V"⟩, prog_14_method_63_code, 2, none, ⟨1, 0, 0, 20⟩, 12,
  [(0, .aload_n 0, 0, 0, 0), (1, .getfield 129, 12, 61, 8171), (4, .iload_n 1, 0, 0, 0), (5, .iconst 0, 0, 0, 0), (6, .iastore, 0, 0, 0), (7, .aload_n 0, 0, 0, 0), (8, .getfield 132, 12, 62, 8172), (11, .iload_n 1, 0, 0, 0), (12, .iconst 0, 0, 0, 0), (13, .iastore, 0, 0, 0), (14, .aload_n 0, 0, 0, 0), (15, .getfield 135, 12, 63, 8173), (18, .iload_n 1, 0, 0, 0), (19, .iconst 0, 0, 0, 0), (20, .bastore, 0, 0, 0), (21, .aload_n 0, 0, 0, 0), (22, .getfield 138, 12, 64, 8174), (25, .iload_n 1, 0, 0, 0), (26, .iconst 0, 0, 0, 0), (27, .bastore, 0, 0, 0), (28, .aload_n 0, 0, 0, 0), (29, .getfield 141, 12, 65, 8175), (32, .iload_n 1, 0, 0, 0), (33, .iconst 0, 0, 0, 0), (34, .iastore, 0, 0, 0), (35, .aload_n 0, 0, 0, 0), (36, .getfield 144, 12, 66, 8176), (39, .iload_n 1, 0, 0, 0), (40, .iconst 0, 0, 0, 0), (41, .iastore, 0, 0, 0), (42, .return_, 0, 0, 0)])
def zm114 : zMR := (⟨"RailwayHouseModel", "slot", "(II)I"⟩, prog_14_method_50_code, 2, some .int, ⟨1, 0, 0, 20⟩, 112,
  [(0, .bipush 40, 0, 0, 0), (2, .iload_n 0, 0, 0, 0), (3, .imul, 0, 0, 0), (4, .iload_n 1, 0, 0, 0), (5, .iadd, 0, 0, 0), (6, .ireturn, 0, 0, 0)])
def zm115 : zMR := (⟨"RailwayHouseModel", "freshChannel", "(II)V"⟩, prog_14_method_129_code, 4, none, ⟨3, 0, 0, 63⟩, 12,
  [(0, .iconst 0, 0, 0, 0), (1, .istore_n 3, 0, 0, 0), (2, .iload_n 3, 0, 0, 0), (3, .bipush 40, 0, 0, 0), (5, .if_icmp .ge 27, 32, 0, 0), (8, .aload_n 0, 0, 0, 0), (9, .iload_n 1, 0, 0, 0), (10, .iload_n 3, 0, 0, 0), (11, .invokestatic 544, 114, 2, 8091), (14, .invokevirtual 588, 113, 1, 8094), (17, .aload_n 0, 0, 0, 0), (18, .iload_n 1, 0, 0, 0), (19, .iload_n 3, 0, 0, 0), (20, .invokestatic 544, 114, 2, 8091), (23, .invokevirtual 767, 112, 1, 8098), (26, .iinc 3 1, 0, 0, 0), (29, .goto (-27), 2, 0, 0), (32, .aload_n 0, 0, 0, 0), (33, .getfield 150, 12, 68, 8178), (36, .iload_n 1, 0, 0, 0), (37, .iload_n 2, 0, 0, 0), (38, .iastore, 0, 0, 0), (39, .aload_n 0, 0, 0, 0), (40, .getfield 153, 12, 69, 8179), (43, .iload_n 1, 0, 0, 0), (44, .iconst 0, 0, 0, 0), (45, .iastore, 0, 0, 0), (46, .aload_n 0, 0, 0, 0), (47, .getfield 156, 12, 70, 8180), (50, .iload_n 1, 0, 0, 0), (51, .iload_n 2, 0, 0, 0), (52, .iastore, 0, 0, 0), (53, .aload_n 0, 0, 0, 0), (54, .getfield 159, 12, 71, 8181), (57, .iload_n 1, 0, 0, 0), (58, .iconst 0, 0, 0, 0), (59, .iastore, 0, 0, 0), (60, .aload_n 0, 0, 0, 0), (61, .getfield 162, 12, 72, 8182), (64, .iload_n 1, 0, 0, 0), (65, .iload_n 2, 0, 0, 0), (66, .iastore, 0, 0, 0), (67, .aload_n 0, 0, 0, 0), (68, .getfield 171, 12, 75, 8185), (71, .iload_n 1, 0, 0, 0), (72, .iconst 1, 0, 0, 0), (73, .bastore, 0, 0, 0), (74, .aload_n 0, 0, 0, 0), (75, .getfield 174, 12, 76, 8186), (78, .iload_n 1, 0, 0, 0), (79, .iconst 0, 0, 0, 0), (80, .iastore, 0, 0, 0), (81, .return_, 0, 0, 0)])
def zm116 : zMR := (⟨"RailwayHouseModel", "freshChannels", "(I)V"⟩, prog_14_method_130_code, 3, none, ⟨4, 0, 0, 86⟩, 12,
  [(0, .iconst 0, 0, 0, 0), (1, .istore_n 2, 0, 0, 0), (2, .iload_n 2, 0, 0, 0), (3, .iconst 3, 0, 0, 0), (4, .if_icmp .ge 15, 19, 0, 0), (7, .aload_n 0, 0, 0, 0), (8, .iload_n 2, 0, 0, 0), (9, .iload_n 1, 0, 0, 0), (10, .invokevirtual 770, 115, 2, 8087), (13, .iinc 2 1, 0, 0, 0), (16, .goto (-14), 2, 0, 0), (19, .iconst 0, 0, 0, 0), (20, .istore_n 2, 0, 0, 0), (21, .iload_n 2, 0, 0, 0), (22, .bipush 120, 0, 0, 0), (24, .if_icmp .ge 16, 40, 0, 0), (27, .aload_n 0, 0, 0, 0), (28, .getfield 147, 12, 67, 8177), (31, .iload_n 2, 0, 0, 0), (32, .iconst 0, 0, 0, 0), (33, .bastore, 0, 0, 0), (34, .iinc 2 1, 0, 0, 0), (37, .goto (-16), 21, 0, 0), (40, .aload_n 0, 0, 0, 0), (41, .iconst 0, 0, 0, 0), (42, .putfield 603, 12, 77, 8187), (45, .aload_n 0, 0, 0, 0), (46, .iconst 0, 0, 0, 0), (47, .putfield 483, 12, 79, 8189), (50, .aload_n 0, 0, 0, 0), (51, .iload_n 1, 0, 0, 0), (52, .putfield 667, 12, 80, 8190), (55, .return_, 0, 0, 0)])
def zm117 : zMR := (⟨"RailwayHouseModel", "noReports", "()V"⟩, prog_14_method_44_code, 2, none, ⟨1, 0, 0, 20⟩, 12,
  [(0, .iconst 0, 0, 0, 0), (1, .istore_n 1, 0, 0, 0), (2, .iload_n 1, 0, 0, 0), (3, .bipush 24, 0, 0, 0), (5, .if_icmp .ge 23, 28, 0, 0), (8, .aload_n 0, 0, 0, 0), (9, .getfield 114, 12, 56, 8166), (12, .iload_n 1, 0, 0, 0), (13, .iconst 3, 0, 0, 0), (14, .iastore, 0, 0, 0), (15, .aload_n 0, 0, 0, 0), (16, .getfield 120, 12, 58, 8168), (19, .iload_n 1, 0, 0, 0), (20, .iconst 3, 0, 0, 0), (21, .iastore, 0, 0, 0), (22, .iinc 1 1, 0, 0, 0), (25, .goto (-23), 2, 0, 0), (28, .return_, 0, 0, 0)])
def zm118 : zMR := (⟨"RailwayHouseModel", "beginHouse", "()V"⟩, prog_14_method_131_code, 2, none, ⟨5, 0, 0, 108⟩, 12,
  [(0, .iconst 0, 0, 0, 0), (1, .istore_n 1, 0, 0, 0), (2, .iload_n 1, 0, 0, 0), (3, .bipush 24, 0, 0, 0), (5, .if_icmp .ge 45, 50, 0, 0), (8, .aload_n 0, 0, 0, 0), (9, .getfield 181, 12, 83, 8193), (12, .iload_n 1, 0, 0, 0), (13, .iconst 0, 0, 0, 0), (14, .iastore, 0, 0, 0), (15, .aload_n 0, 0, 0, 0), (16, .getfield 184, 12, 84, 8194), (19, .iload_n 1, 0, 0, 0), (20, .bipush (-9), 0, 0, 0), (22, .iastore, 0, 0, 0), (23, .aload_n 0, 0, 0, 0), (24, .getfield 190, 12, 86, 8196), (27, .iload_n 1, 0, 0, 0), (28, .iconst 0, 0, 0, 0), (29, .bastore, 0, 0, 0), (30, .aload_n 0, 0, 0, 0), (31, .getfield 123, 12, 59, 8169), (34, .iload_n 1, 0, 0, 0), (35, .iconst (-1), 0, 0, 0), (36, .iastore, 0, 0, 0), (37, .aload_n 0, 0, 0, 0), (38, .getfield 126, 12, 60, 8170), (41, .iload_n 1, 0, 0, 0), (42, .iconst (-1), 0, 0, 0), (43, .iastore, 0, 0, 0), (44, .iinc 1 1, 0, 0, 0), (47, .goto (-45), 2, 0, 0), (50, .iconst 0, 0, 0, 0), (51, .istore_n 1, 0, 0, 0), (52, .iload_n 1, 0, 0, 0), (53, .bipush 16, 0, 0, 0), (55, .if_icmp .ge 16, 71, 0, 0), (58, .aload_n 0, 0, 0, 0), (59, .getfield 238, 12, 105, 8215), (62, .iload_n 1, 0, 0, 0), (63, .iconst 0, 0, 0, 0), (64, .iastore, 0, 0, 0), (65, .iinc 1 1, 0, 0, 0), (68, .goto (-16), 52, 0, 0), (71, .iconst 0, 0, 0, 0), (72, .istore_n 1, 0, 0, 0), (73, .iload_n 1, 0, 0, 0), (74, .bipush 40, 0, 0, 0), (76, .if_icmp .ge 16, 92, 0, 0), (79, .aload_n 0, 0, 0, 0), (80, .getfield 241, 12, 107, 8217), (83, .iload_n 1, 0, 0, 0), (84, .iconst 0, 0, 0, 0), (85, .iastore, 0, 0, 0), (86, .iinc 1 1, 0, 0, 0), (89, .goto (-16), 73, 0, 0), (92, .iconst 0, 0, 0, 0), (93, .istore_n 1, 0, 0, 0), (94, .iload_n 1, 0, 0, 0), (95, .bipush 8, 0, 0, 0), (97, .if_icmp .ge 16, 113, 0, 0), (100, .aload_n 0, 0, 0, 0), (101, .getfield 232, 12, 102, 8212), (104, .iload_n 1, 0, 0, 0), (105, .iconst 0, 0, 0, 0), (106, .bastore, 0, 0, 0), (107, .iinc 1 1, 0, 0, 0), (110, .goto (-16), 94, 0, 0), (113, .aload_n 0, 0, 0, 0), (114, .iconst 0, 0, 0, 0), (115, .putfield 773, 12, 110, 8220), (118, .aload_n 0, 0, 0, 0), (119, .iconst 0, 0, 0, 0), (120, .putfield 680, 12, 87, 8197), (123, .aload_n 0, 0, 0, 0), (124, .iconst 0, 0, 0, 0), (125, .putfield 723, 12, 88, 8198), (128, .aload_n 0, 0, 0, 0), (129, .iconst 0, 0, 0, 0), (130, .putfield 744, 12, 104, 8214), (133, .aload_n 0, 0, 0, 0), (134, .iconst 0, 0, 0, 0), (135, .putfield 735, 12, 106, 8216), (138, .aload_n 0, 0, 0, 0), (139, .iconst 0, 0, 0, 0), (140, .putfield 630, 12, 82, 8192), (143, .aload_n 0, 0, 0, 0), (144, .iconst 0, 0, 0, 0), (145, .putfield 616, 12, 78, 8188), (148, .aload_n 0, 0, 0, 0), (149, .iconst 0, 0, 0, 0), (150, .invokevirtual 776, 116, 1, 8083), (153, .aload_n 0, 0, 0, 0), (154, .invokevirtual 779, 117, 0, 8106), (157, .return_, 0, 0, 0)])
def zm119 : zMR := (⟨"RailwayHouseModel", "beginAll", "()V"⟩, prog_14_method_171_code, 2, none, ⟨6, 0, 0, 129⟩, 12,
  [(0, .aload_n 0, 0, 0, 0), (1, .iconst 0, 0, 0, 0), (2, .putfield 343, 12, 1, 8111), (5, .aload_n 0, 0, 0, 0), (6, .bipush (-9), 0, 0, 0), (8, .putfield 354, 12, 9, 8119), (11, .aload_n 0, 0, 0, 0), (12, .iconst 0, 0, 0, 0), (13, .putfield 455, 12, 20, 8130), (16, .aload_n 0, 0, 0, 0), (17, .iconst 0, 0, 0, 0), (18, .putfield 458, 12, 27, 8137), (21, .aload_n 0, 0, 0, 0), (22, .iconst 0, 0, 0, 0), (23, .putfield 513, 12, 32, 8142), (26, .aload_n 0, 0, 0, 0), (27, .iconst 0, 0, 0, 0), (28, .putfield 461, 12, 30, 8140), (31, .iconst 0, 0, 0, 0), (32, .istore_n 1, 0, 0, 0), (33, .iload_n 1, 0, 0, 0), (34, .bipush 8, 0, 0, 0), (36, .if_icmp .ge 23, 59, 0, 0), (39, .aload_n 0, 0, 0, 0), (40, .getfield 250, 12, 111, 8221), (43, .iload_n 1, 0, 0, 0), (44, .iconst 5, 0, 0, 0), (45, .iastore, 0, 0, 0), (46, .aload_n 0, 0, 0, 0), (47, .getfield 253, 12, 112, 8222), (50, .iload_n 1, 0, 0, 0), (51, .iconst 0, 0, 0, 0), (52, .iastore, 0, 0, 0), (53, .iinc 1 1, 0, 0, 0), (56, .goto (-23), 33, 0, 0), (59, .aload_n 0, 0, 0, 0), (60, .iconst 0, 0, 0, 0), (61, .putfield 812, 12, 113, 8223), (64, .aload_n 0, 0, 0, 0), (65, .iconst 0, 0, 0, 0), (66, .putfield 829, 12, 121, 8231), (69, .aload_n 0, 0, 0, 0), (70, .iconst 0, 0, 0, 0), (71, .putfield 762, 12, 126, 8236), (74, .aload_n 0, 0, 0, 0), (75, .iconst 0, 0, 0, 0), (76, .putfield 850, 12, 133, 9003), (79, .aload_n 0, 0, 0, 0), (80, .iconst 0, 0, 0, 0), (81, .putfield 856, 12, 142, 9012), (84, .aload_n 0, 0, 0, 0), (85, .invokevirtual 474, 118, 0, 8079), (88, .return_, 0, 0, 0)])
def zm120 : zMR := (⟨"RailwayHouseModel", "<init>", "()V"⟩, prog_14_method_2_code, 1, none, ⟨7, 109, 15418, 150⟩, 12,
  [(0, .aload_n 0, 0, 0, 0), (1, .invokespecial 1, 0, 50, 8074), (4, .aload_n 0, 0, 0, 0), (5, .sipush 2000, 0, 0, 0), (8, .newarray .byte, 0, 0, 0), (10, .putfield 7, 12, 0, 8110), (13, .aload_n 0, 0, 0, 0), (14, .bipush 24, 0, 0, 0), (16, .newarray .boolean, 0, 0, 0), (18, .putfield 13, 12, 11, 8121), (21, .aload_n 0, 0, 0, 0), (22, .bipush 24, 0, 0, 0), (24, .newarray .int, 0, 0, 0), (26, .putfield 17, 12, 12, 8122), (29, .aload_n 0, 0, 0, 0), (30, .bipush 24, 0, 0, 0), (32, .newarray .int, 0, 0, 0), (34, .putfield 21, 12, 13, 8123), (37, .aload_n 0, 0, 0, 0), (38, .bipush 24, 0, 0, 0), (40, .newarray .int, 0, 0, 0), (42, .putfield 24, 12, 14, 8124), (45, .aload_n 0, 0, 0, 0), (46, .bipush 72, 0, 0, 0), (48, .newarray .int, 0, 0, 0), (50, .putfield 27, 12, 15, 8125), (53, .aload_n 0, 0, 0, 0), (54, .bipush 48, 0, 0, 0), (56, .newarray .int, 0, 0, 0), (58, .putfield 30, 12, 16, 8126), (61, .aload_n 0, 0, 0, 0), (62, .bipush 16, 0, 0, 0), (64, .newarray .int, 0, 0, 0), (66, .putfield 33, 12, 18, 8128), (69, .aload_n 0, 0, 0, 0), (70, .bipush 16, 0, 0, 0), (72, .newarray .int, 0, 0, 0), (74, .putfield 36, 12, 19, 8129), (77, .aload_n 0, 0, 0, 0), (78, .bipush 24, 0, 0, 0), (80, .newarray .boolean, 0, 0, 0), (82, .putfield 39, 12, 21, 8131), (85, .aload_n 0, 0, 0, 0), (86, .bipush 24, 0, 0, 0), (88, .newarray .int, 0, 0, 0), (90, .putfield 42, 12, 22, 8132), (93, .aload_n 0, 0, 0, 0), (94, .bipush 24, 0, 0, 0), (96, .newarray .int, 0, 0, 0), (98, .putfield 45, 12, 23, 8133), (101, .aload_n 0, 0, 0, 0), (102, .bipush 24, 0, 0, 0), (104, .newarray .int, 0, 0, 0), (106, .putfield 48, 12, 24, 8134), (109, .aload_n 0, 0, 0, 0), (110, .bipush 72, 0, 0, 0), (112, .newarray .int, 0, 0, 0), (114, .putfield 51, 12, 25, 8135), (117, .aload_n 0, 0, 0, 0), (118, .bipush 48, 0, 0, 0), (120, .newarray .int, 0, 0, 0), (122, .putfield 54, 12, 26, 8136), (125, .aload_n 0, 0, 0, 0), (126, .bipush 16, 0, 0, 0), (128, .newarray .int, 0, 0, 0), (130, .putfield 57, 12, 28, 8138), (133, .aload_n 0, 0, 0, 0), (134, .bipush 16, 0, 0, 0), (136, .newarray .int, 0, 0, 0), (138, .putfield 60, 12, 29, 8139), (141, .aload_n 0, 0, 0, 0), (142, .bipush 40, 0, 0, 0), (144, .newarray .int, 0, 0, 0), (146, .putfield 63, 12, 33, 8143), (149, .aload_n 0, 0, 0, 0), (150, .bipush 40, 0, 0, 0), (152, .newarray .int, 0, 0, 0), (154, .putfield 66, 12, 34, 8144), (157, .aload_n 0, 0, 0, 0), (158, .bipush 40, 0, 0, 0), (160, .newarray .int, 0, 0, 0), (162, .putfield 69, 12, 35, 8145), (165, .aload_n 0, 0, 0, 0), (166, .sipush 320, 0, 0, 0), (169, .newarray .int, 0, 0, 0), (171, .putfield 72, 12, 36, 8146), (174, .aload_n 0, 0, 0, 0), (175, .bipush 40, 0, 0, 0), (177, .newarray .int, 0, 0, 0), (179, .putfield 75, 12, 37, 8147), (182, .aload_n 0, 0, 0, 0), (183, .bipush 40, 0, 0, 0), (185, .newarray .int, 0, 0, 0), (187, .putfield 78, 12, 38, 8148), (190, .aload_n 0, 0, 0, 0), (191, .sipush 800, 0, 0, 0), (194, .newarray .int, 0, 0, 0), (196, .putfield 81, 12, 39, 8149), (199, .aload_n 0, 0, 0, 0), (200, .sipush 800, 0, 0, 0), (203, .newarray .int, 0, 0, 0), (205, .putfield 84, 12, 40, 8150), (208, .aload_n 0, 0, 0, 0), (209, .sipush 800, 0, 0, 0), (212, .newarray .int, 0, 0, 0), (214, .putfield 87, 12, 41, 8151), (217, .aload_n 0, 0, 0, 0), (218, .bipush 8, 0, 0, 0), (220, .newarray .int, 0, 0, 0), (222, .putfield 90, 12, 42, 8152), (225, .aload_n 0, 0, 0, 0), (226, .bipush 8, 0, 0, 0), (228, .newarray .int, 0, 0, 0), (230, .putfield 93, 12, 43, 8153), (233, .aload_n 0, 0, 0, 0), (234, .bipush 8, 0, 0, 0), (236, .newarray .int, 0, 0, 0), (238, .putfield 96, 12, 44, 8154), (241, .aload_n 0, 0, 0, 0), (242, .bipush 9, 0, 0, 0), (244, .newarray .int, 0, 0, 0), (246, .putfield 99, 12, 49, 8159), (249, .aload_n 0, 0, 0, 0), (250, .bipush 20, 0, 0, 0), (252, .newarray .int, 0, 0, 0), (254, .putfield 102, 12, 52, 8162), (257, .aload_n 0, 0, 0, 0), (258, .bipush 20, 0, 0, 0), (260, .newarray .int, 0, 0, 0), (262, .putfield 105, 12, 53, 8163), (265, .aload_n 0, 0, 0, 0), (266, .bipush 20, 0, 0, 0), (268, .newarray .int, 0, 0, 0), (270, .putfield 108, 12, 54, 8164), (273, .aload_n 0, 0, 0, 0), (274, .bipush 24, 0, 0, 0), (276, .newarray .int, 0, 0, 0), (278, .putfield 111, 12, 55, 8165), (281, .aload_n 0, 0, 0, 0), (282, .bipush 24, 0, 0, 0), (284, .newarray .int, 0, 0, 0), (286, .putfield 114, 12, 56, 8166), (289, .aload_n 0, 0, 0, 0), (290, .bipush 24, 0, 0, 0), (292, .newarray .int, 0, 0, 0), (294, .putfield 117, 12, 57, 8167), (297, .aload_n 0, 0, 0, 0), (298, .bipush 24, 0, 0, 0), (300, .newarray .int, 0, 0, 0), (302, .putfield 120, 12, 58, 8168), (305, .aload_n 0, 0, 0, 0), (306, .bipush 24, 0, 0, 0), (308, .newarray .int, 0, 0, 0), (310, .putfield 123, 12, 59, 8169), (313, .aload_n 0, 0, 0, 0), (314, .bipush 24, 0, 0, 0), (316, .newarray .int, 0, 0, 0), (318, .putfield 126, 12, 60, 8170), (321, .aload_n 0, 0, 0, 0), (322, .bipush 120, 0, 0, 0), (324, .newarray .int, 0, 0, 0), (326, .putfield 129, 12, 61, 8171), (329, .aload_n 0, 0, 0, 0), (330, .bipush 120, 0, 0, 0), (332, .newarray .int, 0, 0, 0), (334, .putfield 132, 12, 62, 8172), (337, .aload_n 0, 0, 0, 0), (338, .bipush 120, 0, 0, 0), (340, .newarray .boolean, 0, 0, 0), (342, .putfield 135, 12, 63, 8173), (345, .aload_n 0, 0, 0, 0), (346, .bipush 120, 0, 0, 0), (348, .newarray .boolean, 0, 0, 0), (350, .putfield 138, 12, 64, 8174), (353, .aload_n 0, 0, 0, 0), (354, .bipush 120, 0, 0, 0), (356, .newarray .int, 0, 0, 0), (358, .putfield 141, 12, 65, 8175), (361, .aload_n 0, 0, 0, 0), (362, .bipush 120, 0, 0, 0), (364, .newarray .int, 0, 0, 0), (366, .putfield 144, 12, 66, 8176), (369, .aload_n 0, 0, 0, 0), (370, .bipush 120, 0, 0, 0), (372, .newarray .boolean, 0, 0, 0), (374, .putfield 147, 12, 67, 8177), (377, .aload_n 0, 0, 0, 0), (378, .iconst 3, 0, 0, 0), (379, .newarray .int, 0, 0, 0), (381, .putfield 150, 12, 68, 8178), (384, .aload_n 0, 0, 0, 0), (385, .iconst 3, 0, 0, 0), (386, .newarray .int, 0, 0, 0), (388, .putfield 153, 12, 69, 8179), (391, .aload_n 0, 0, 0, 0), (392, .iconst 3, 0, 0, 0), (393, .newarray .int, 0, 0, 0), (395, .putfield 156, 12, 70, 8180), (398, .aload_n 0, 0, 0, 0), (399, .iconst 3, 0, 0, 0), (400, .newarray .int, 0, 0, 0), (402, .putfield 159, 12, 71, 8181), (405, .aload_n 0, 0, 0, 0), (406, .iconst 3, 0, 0, 0), (407, .newarray .int, 0, 0, 0), (409, .putfield 162, 12, 72, 8182), (412, .aload_n 0, 0, 0, 0), (413, .bipush 120, 0, 0, 0), (415, .newarray .int, 0, 0, 0), (417, .putfield 165, 12, 73, 8183), (420, .aload_n 0, 0, 0, 0), (421, .bipush 120, 0, 0, 0), (423, .newarray .int, 0, 0, 0), (425, .putfield 168, 12, 74, 8184), (428, .aload_n 0, 0, 0, 0), (429, .iconst 3, 0, 0, 0), (430, .newarray .boolean, 0, 0, 0), (432, .putfield 171, 12, 75, 8185), (435, .aload_n 0, 0, 0, 0), (436, .iconst 3, 0, 0, 0), (437, .newarray .int, 0, 0, 0), (439, .putfield 174, 12, 76, 8186), (442, .aload_n 0, 0, 0, 0), (443, .iconst 3, 0, 0, 0), (444, .newarray .long, 0, 0, 0), (446, .putfield 177, 12, 81, 8191), (449, .aload_n 0, 0, 0, 0), (450, .bipush 24, 0, 0, 0), (452, .newarray .int, 0, 0, 0), (454, .putfield 181, 12, 83, 8193), (457, .aload_n 0, 0, 0, 0), (458, .bipush 24, 0, 0, 0), (460, .newarray .int, 0, 0, 0), (462, .putfield 184, 12, 84, 8194), (465, .aload_n 0, 0, 0, 0), (466, .bipush 24, 0, 0, 0), (468, .newarray .int, 0, 0, 0), (470, .putfield 187, 12, 85, 8195), (473, .aload_n 0, 0, 0, 0), (474, .bipush 24, 0, 0, 0), (476, .newarray .boolean, 0, 0, 0), (478, .putfield 190, 12, 86, 8196), (481, .aload_n 0, 0, 0, 0), (482, .sipush 200, 0, 0, 0), (485, .newarray .int, 0, 0, 0), (487, .putfield 193, 12, 89, 8199), (490, .aload_n 0, 0, 0, 0), (491, .sipush 200, 0, 0, 0), (494, .newarray .int, 0, 0, 0), (496, .putfield 196, 12, 90, 8200), (499, .aload_n 0, 0, 0, 0), (500, .sipush 200, 0, 0, 0), (503, .newarray .int, 0, 0, 0), (505, .putfield 199, 12, 91, 8201), (508, .aload_n 0, 0, 0, 0), (509, .sipush 200, 0, 0, 0), (512, .newarray .int, 0, 0, 0), (514, .putfield 202, 12, 92, 8202), (517, .aload_n 0, 0, 0, 0), (518, .sipush 200, 0, 0, 0), (521, .newarray .int, 0, 0, 0), (523, .putfield 205, 12, 93, 8203), (526, .aload_n 0, 0, 0, 0), (527, .sipush 200, 0, 0, 0), (530, .newarray .int, 0, 0, 0), (532, .putfield 208, 12, 94, 8204), (535, .aload_n 0, 0, 0, 0), (536, .sipush 200, 0, 0, 0), (539, .newarray .boolean, 0, 0, 0), (541, .putfield 211, 12, 95, 8205), (544, .aload_n 0, 0, 0, 0), (545, .sipush 200, 0, 0, 0), (548, .newarray .int, 0, 0, 0), (550, .putfield 214, 12, 96, 8206), (553, .aload_n 0, 0, 0, 0), (554, .sipush 200, 0, 0, 0), (557, .newarray .int, 0, 0, 0), (559, .putfield 217, 12, 97, 8207), (562, .aload_n 0, 0, 0, 0), (563, .sipush 200, 0, 0, 0), (566, .newarray .int, 0, 0, 0), (568, .putfield 220, 12, 98, 8208), (571, .aload_n 0, 0, 0, 0), (572, .bipush 8, 0, 0, 0), (574, .newarray .int, 0, 0, 0), (576, .putfield 223, 12, 99, 8209), (579, .aload_n 0, 0, 0, 0), (580, .sipush 512, 0, 0, 0), (583, .newarray .int, 0, 0, 0), (585, .putfield 226, 12, 100, 8210), (588, .aload_n 0, 0, 0, 0), (589, .sipush 512, 0, 0, 0), (592, .newarray .int, 0, 0, 0), (594, .putfield 229, 12, 101, 8211), (597, .aload_n 0, 0, 0, 0), (598, .bipush 8, 0, 0, 0), (600, .newarray .boolean, 0, 0, 0), (602, .putfield 232, 12, 102, 8212), (605, .aload_n 0, 0, 0, 0), (606, .bipush 24, 0, 0, 0), (608, .newarray .boolean, 0, 0, 0), (610, .putfield 235, 12, 103, 8213), (613, .aload_n 0, 0, 0, 0), (614, .bipush 16, 0, 0, 0), (616, .newarray .int, 0, 0, 0), (618, .putfield 238, 12, 105, 8215), (621, .aload_n 0, 0, 0, 0), (622, .bipush 40, 0, 0, 0), (624, .newarray .int, 0, 0, 0), (626, .putfield 241, 12, 107, 8217), (629, .aload_n 0, 0, 0, 0), (630, .bipush 40, 0, 0, 0), (632, .newarray .int, 0, 0, 0), (634, .putfield 244, 12, 108, 8218), (637, .aload_n 0, 0, 0, 0), (638, .bipush 40, 0, 0, 0), (640, .newarray .int, 0, 0, 0), (642, .putfield 247, 12, 109, 8219), (645, .aload_n 0, 0, 0, 0), (646, .bipush 8, 0, 0, 0), (648, .newarray .int, 0, 0, 0), (650, .putfield 250, 12, 111, 8221), (653, .aload_n 0, 0, 0, 0), (654, .bipush 8, 0, 0, 0), (656, .newarray .int, 0, 0, 0), (658, .putfield 253, 12, 112, 8222), (661, .aload_n 0, 0, 0, 0), (662, .bipush 12, 0, 0, 0), (664, .newarray .int, 0, 0, 0), (666, .putfield 256, 12, 114, 8224), (669, .aload_n 0, 0, 0, 0), (670, .bipush 12, 0, 0, 0), (672, .newarray .int, 0, 0, 0), (674, .putfield 259, 12, 115, 8225), (677, .aload_n 0, 0, 0, 0), (678, .bipush 96, 0, 0, 0), (680, .newarray .int, 0, 0, 0), (682, .putfield 262, 12, 116, 8226), (685, .aload_n 0, 0, 0, 0), (686, .bipush 96, 0, 0, 0), (688, .newarray .int, 0, 0, 0), (690, .putfield 265, 12, 117, 8227), (693, .aload_n 0, 0, 0, 0), (694, .bipush 96, 0, 0, 0), (696, .newarray .int, 0, 0, 0), (698, .putfield 268, 12, 118, 8228), (701, .aload_n 0, 0, 0, 0), (702, .sipush 480, 0, 0, 0), (705, .newarray .int, 0, 0, 0), (707, .putfield 271, 12, 119, 8229), (710, .aload_n 0, 0, 0, 0), (711, .sipush 480, 0, 0, 0), (714, .newarray .long, 0, 0, 0), (716, .putfield 274, 12, 120, 8230), (719, .aload_n 0, 0, 0, 0), (720, .sipush 400, 0, 0, 0), (723, .newarray .int, 0, 0, 0), (725, .putfield 277, 12, 122, 8232), (728, .aload_n 0, 0, 0, 0), (729, .sipush 400, 0, 0, 0), (732, .newarray .int, 0, 0, 0), (734, .putfield 280, 12, 123, 8233), (737, .aload_n 0, 0, 0, 0), (738, .sipush 400, 0, 0, 0), (741, .newarray .int, 0, 0, 0), (743, .putfield 283, 12, 124, 8234), (746, .aload_n 0, 0, 0, 0), (747, .sipush 400, 0, 0, 0), (750, .newarray .long, 0, 0, 0), (752, .putfield 286, 12, 125, 8235), (755, .aload_n 0, 0, 0, 0), (756, .sipush 400, 0, 0, 0), (759, .newarray .int, 0, 0, 0), (761, .putfield 289, 12, 127, 8237), (764, .aload_n 0, 0, 0, 0), (765, .sipush 400, 0, 0, 0), (768, .newarray .int, 0, 0, 0), (770, .putfield 292, 12, 128, 8238), (773, .aload_n 0, 0, 0, 0), (774, .sipush 400, 0, 0, 0), (777, .newarray .int, 0, 0, 0), (779, .putfield 295, 12, 129, 8239), (782, .aload_n 0, 0, 0, 0), (783, .sipush 400, 0, 0, 0), (786, .newarray .int, 0, 0, 0), (788, .putfield 298, 12, 130, 9000), (791, .aload_n 0, 0, 0, 0), (792, .sipush 400, 0, 0, 0), (795, .newarray .int, 0, 0, 0), (797, .putfield 301, 12, 131, 9001), (800, .aload_n 0, 0, 0, 0), (801, .sipush 400, 0, 0, 0), (804, .newarray .int, 0, 0, 0), (806, .putfield 304, 12, 132, 9002), (809, .aload_n 0, 0, 0, 0), (810, .bipush 7, 0, 0, 0), (812, .newarray .int, 0, 0, 0), (814, .putfield 307, 12, 134, 9004), (817, .aload_n 0, 0, 0, 0), (818, .bipush 7, 0, 0, 0), (820, .newarray .int, 0, 0, 0), (822, .putfield 310, 12, 135, 9005), (825, .aload_n 0, 0, 0, 0), (826, .bipush 7, 0, 0, 0), (828, .newarray .int, 0, 0, 0), (830, .putfield 313, 12, 136, 9006), (833, .aload_n 0, 0, 0, 0), (834, .bipush 7, 0, 0, 0), (836, .newarray .int, 0, 0, 0), (838, .putfield 316, 12, 137, 9007), (841, .aload_n 0, 0, 0, 0), (842, .bipush 7, 0, 0, 0), (844, .newarray .int, 0, 0, 0), (846, .putfield 319, 12, 138, 9008), (849, .aload_n 0, 0, 0, 0), (850, .bipush 7, 0, 0, 0), (852, .newarray .int, 0, 0, 0), (854, .putfield 322, 12, 139, 9009), (857, .aload_n 0, 0, 0, 0), (858, .bipush 7, 0, 0, 0), (860, .newarray .int, 0, 0, 0), (862, .putfield 325, 12, 140, 9010), (865, .aload_n 0, 0, 0, 0), (866, .bipush 7, 0, 0, 0), (868, .newarray .int, 0, 0, 0), (870, .putfield 328, 12, 141, 9011), (873, .aload_n 0, 0, 0, 0), (874, .bipush 7, 0, 0, 0), (876, .newarray .int, 0, 0, 0), (878, .putfield 331, 12, 143, 9013), (881, .aload_n 0, 0, 0, 0), (882, .bipush 7, 0, 0, 0), (884, .newarray .int, 0, 0, 0), (886, .putfield 334, 12, 144, 9014), (889, .aload_n 0, 0, 0, 0), (890, .bipush 7, 0, 0, 0), (892, .newarray .int, 0, 0, 0), (894, .putfield 337, 12, 145, 9015), (897, .aload_n 0, 0, 0, 0), (898, .invokevirtual 340, 119, 0, 8075), (901, .return_, 0, 0, 0)])
def zm121 : zMR := (⟨"RailwayHouseModel", "anyTorn", "()Z"⟩, prog_14_method_142_code, 4, some .boolean, ⟨1, 0, 0, 20⟩, 12,
  [(0, .iconst 0, 0, 0, 0), (1, .istore_n 1, 0, 0, 0), (2, .iconst 0, 0, 0, 0), (3, .istore_n 2, 0, 0, 0), (4, .iload_n 2, 0, 0, 0), (5, .aload_n 0, 0, 0, 0), (6, .getfield 513, 12, 32, 8142), (9, .if_icmp .ge 86, 95, 0, 0), (95, .iload_n 1, 0, 0, 0), (96, .ireturn, 0, 0, 0)])
def zm122 : zMR := (⟨"RailwayHouseModel", "anyTwice", "()Z"⟩, prog_14_method_141_code, 5, some .boolean, ⟨1, 0, 0, 20⟩, 12,
  [(0, .iconst 0, 0, 0, 0), (1, .istore_n 1, 0, 0, 0), (2, .iconst 0, 0, 0, 0), (3, .istore_n 2, 0, 0, 0), (4, .iload_n 2, 0, 0, 0), (5, .aload_n 0, 0, 0, 0), (6, .getfield 455, 12, 20, 8130), (9, .if_icmp .ge 66, 75, 0, 0), (75, .iload_n 1, 0, 0, 0), (76, .ireturn, 0, 0, 0)])
def zm123 : zMR := (⟨"RailwayHouseModel", "anyTwoTrains", "()Z"⟩, prog_14_method_143_code, 5, some .boolean, ⟨1, 0, 0, 20⟩, 12,
  [(0, .iconst 0, 0, 0, 0), (1, .istore_n 1, 0, 0, 0), (2, .iconst 0, 0, 0, 0), (3, .istore_n 2, 0, 0, 0), (4, .iload_n 2, 0, 0, 0), (5, .aload_n 0, 0, 0, 0), (6, .getfield 455, 12, 20, 8130), (9, .if_icmp .ge 71, 80, 0, 0), (80, .iload_n 1, 0, 0, 0), (81, .ireturn, 0, 0, 0)])
def zm124 : zMR := (⟨"RailwayHouseModel", "audit", "()I"⟩, prog_14_method_144_code, 2, some .int, ⟨2, 0, 0, 44⟩, 12,
  [(0, .iconst 0, 0, 0, 0), (1, .istore_n 1, 0, 0, 0), (2, .iload_n 1, 0, 0, 0), (3, .aload_n 0, 0, 0, 0), (4, .getfield 458, 12, 27, 8137), (7, .if_icmp .ge 19, 26, 0, 0), (26, .iconst 0, 0, 0, 0), (27, .istore_n 1, 0, 0, 0), (28, .iload_n 1, 0, 0, 0), (29, .aload_n 0, 0, 0, 0), (30, .getfield 513, 12, 32, 8142), (33, .if_icmp .ge 49, 82, 0, 0), (82, .aload_n 0, 0, 0, 0), (83, .invokevirtual 803, 122, 0, 12126), (86, .ifCond .eq 7, 93, 0, 0), (93, .aload_n 0, 0, 0, 0), (94, .invokevirtual 806, 121, 0, 12130), (97, .ifCond .eq 7, 104, 0, 0), (104, .aload_n 0, 0, 0, 0), (105, .invokevirtual 809, 123, 0, 12134), (108, .ifCond .eq 7, 115, 0, 0), (115, .iconst 0, 0, 0, 0), (116, .ireturn, 0, 0, 0)])
def zm125 : zMR := (⟨"RailwayHouseModel", "in", "(III)Z"⟩, prog_14_method_1_code, 3, some .boolean, ⟨1, 0, 0, 20⟩, 112,
  [(0, .iload_n 0, 0, 0, 0), (1, .iload_n 1, 0, 0, 0), (2, .if_icmp .lt 12, 14, 0, 0), (5, .iload_n 0, 0, 0, 0), (6, .iload_n 2, 0, 0, 0), (7, .if_icmp .gt 7, 14, 0, 0), (10, .iconst 1, 0, 0, 0), (11, .goto 4, 15, 0, 0), (14, .iconst 0, 0, 0, 0), (15, .ireturn, 0, 0, 0)])
def zm126 : zMR := (⟨"RailwayHouseModel", "noSection", "(I)Z"⟩, prog_14_method_24_code, 2, some .boolean, ⟨2, 0, 0, 42⟩, 12,
  [(0, .iload_n 1, 0, 0, 0), (1, .iconst 0, 0, 0, 0), (2, .aload_n 0, 0, 0, 0), (3, .getfield 455, 12, 20, 8130), (6, .iconst 1, 0, 0, 0), (7, .isub, 0, 0, 0), (8, .invokestatic 347, 125, 3, 10077), (11, .ifCond .ne 7, 18, 0, 0), (14, .iconst 1, 0, 0, 0), (15, .goto 4, 19, 0, 0), (19, .ireturn, 0, 0, 0)])
def zm127 : zMR := (⟨"RailwayHouseModel", "noPoint", "(I)Z"⟩, prog_14_method_26_code, 2, some .boolean, ⟨3, 0, 0, 63⟩, 12,
  [(0, .aload_n 0, 0, 0, 0), (1, .iload_n 1, 0, 0, 0), (2, .invokevirtual 477, 126, 1, 10196), (5, .ifCond .ne 12, 17, 0, 0), (17, .iconst 1, 0, 0, 0), (18, .goto 4, 22, 0, 0), (22, .ireturn, 0, 0, 0)])
def zm128 : zMR := (⟨"RailwayHouseModel", "block", "(IZ)I"⟩, prog_14_method_97_code, 4, some .int, ⟨4, 0, 0, 84⟩, 12,
  [(0, .aload_n 0, 0, 0, 0), (1, .iload_n 1, 0, 0, 0), (2, .invokevirtual 633, 127, 1, 11124), (5, .ifCond .eq 5, 10, 0, 0), (8, .iconst (-1), 0, 0, 0), (9, .ireturn, 0, 0, 0)])
def zm129 : zMR := (⟨"RailwayHouseModel", "byteAt", "(I)I"⟩, prog_14_method_6_code, 2, some .int, ⟨1, 0, 0, 20⟩, 12,
  [(0, .iload_n 1, 0, 0, 0), (1, .aload_n 0, 0, 0, 0), (2, .getfield 357, 12, 2, 8112), (5, .if_icmp .ge 16, 21, 0, 0), (21, .iconst (-1), 0, 0, 0), (22, .ireturn, 0, 0, 0)])
def zm130 : zMR := (⟨"RailwayHouseModel", "noRoute", "(I)Z"⟩, prog_14_method_36_code, 2, some .boolean, ⟨2, 0, 0, 42⟩, 12,
  [(0, .iload_n 1, 0, 0, 0), (1, .iconst 0, 0, 0, 0), (2, .aload_n 0, 0, 0, 0), (3, .getfield 513, 12, 32, 8142), (6, .iconst 1, 0, 0, 0), (7, .isub, 0, 0, 0), (8, .invokestatic 347, 125, 3, 10077), (11, .ifCond .ne 7, 18, 0, 0), (14, .iconst 1, 0, 0, 0), (15, .goto 4, 19, 0, 0), (19, .ireturn, 0, 0, 0)])
def zm131 : zMR := (⟨"RailwayHouseModel", "cancel", "(I)I"⟩, prog_14_method_79_code, 2, some .int, ⟨3, 0, 0, 63⟩, 12,
  [(0, .aload_n 0, 0, 0, 0), (1, .iload_n 1, 0, 0, 0), (2, .invokevirtual 526, 130, 1, 10212), (5, .ifCond .eq 7, 12, 0, 0), (8, .iconst (-1), 0, 0, 0), (9, .goto 10, 19, 0, 0), (19, .ireturn, 0, 0, 0)])
def zm132 : zMR := (⟨"RailwayHouseModel", "channel", "(II)I"⟩, prog_14_method_94_code, 3, some .int, ⟨2, 0, 0, 42⟩, 12,
  [(0, .iload_n 1, 0, 0, 0), (1, .iconst 0, 0, 0, 0), (2, .iconst 2, 0, 0, 0), (3, .invokestatic 347, 125, 3, 10077), (6, .ifCond .ne 5, 11, 0, 0), (9, .iconst (-1), 0, 0, 0), (10, .ireturn, 0, 0, 0), (11, .iload_n 2, 0, 0, 0), (12, .ifCond .ne 20, 32, 0, 0), (15, .aload_n 0, 0, 0, 0), (16, .getfield 171, 12, 75, 8185), (19, .iload_n 1, 0, 0, 0), (20, .baload, 0, 0, 0), (21, .ifCond .eq 7, 28, 0, 0), (24, .iconst 1, 0, 0, 0), (25, .goto 23, 48, 0, 0), (32, .iload_n 2, 0, 0, 0), (33, .iconst 1, 0, 0, 0), (34, .if_icmp .ne 12, 46, 0, 0), (37, .aload_n 0, 0, 0, 0), (38, .getfield 174, 12, 76, 8186), (41, .iload_n 1, 0, 0, 0), (42, .iaload, 0, 0, 0), (43, .goto 5, 48, 0, 0), (46, .bipush (-2), 0, 0, 0), (48, .ireturn, 0, 0, 0)])
def zm133 : zMR := (⟨"RailwayHouseModel", "clear", "()I"⟩, prog_14_method_173_code, 2, some .int, ⟨7, 0, 0, 150⟩, 12,
  [(0, .aload_n 0, 0, 0, 0), (1, .getfield 744, 12, 104, 8214), (4, .istore_n 1, 0, 0, 0), (5, .aload_n 0, 0, 0, 0), (6, .invokevirtual 340, 119, 0, 8075), (9, .iload_n 1, 0, 0, 0), (10, .ireturn, 0, 0, 0)])
def zm134 : zMR := (⟨"RailwayHouseModel", "clearLine", "()I"⟩, prog_14_method_165_code, 2, some .int, ⟨1, 0, 0, 20⟩, 12,
  [(0, .aload_n 0, 0, 0, 0), (1, .getfield 850, 12, 133, 9003), (4, .istore_n 1, 0, 0, 0), (5, .aload_n 0, 0, 0, 0), (6, .iconst 0, 0, 0, 0), (7, .putfield 850, 12, 133, 9003), (10, .iload_n 1, 0, 0, 0), (11, .ireturn, 0, 0, 0)])
def zm135 : zMR := (⟨"RailwayHouseModel", "conflict", "(II)I"⟩, prog_14_method_43_code, 4, some .int, ⟨3, 0, 0, 63⟩, 12,
  [(0, .aload_n 0, 0, 0, 0), (1, .iload_n 1, 0, 0, 0), (2, .invokevirtual 526, 130, 1, 10212), (5, .ifCond .ne 11, 16, 0, 0), (16, .iconst (-1), 0, 0, 0), (17, .ireturn, 0, 0, 0)])
def zm136 : zMR := (⟨"RailwayHouseModel", "costOf", "()I"⟩, prog_14_method_167_code, 5, some .int, ⟨1, 0, 0, 20⟩, 12,
  [(0, .iconst 0, 0, 0, 0), (1, .istore_n 1, 0, 0, 0), (2, .iconst 0, 0, 0, 0), (3, .istore_n 2, 0, 0, 0), (4, .iload_n 2, 0, 0, 0), (5, .aload_n 0, 0, 0, 0), (6, .getfield 850, 12, 133, 9003), (9, .if_icmp .ge 159, 168, 0, 0), (168, .iload_n 1, 0, 0, 0), (169, .ireturn, 0, 0, 0)])
def zm137 : zMR := (⟨"RailwayHouseModel", "holdsThere", "()I"⟩, prog_14_method_158_code, 3, some .int, ⟨1, 0, 0, 20⟩, 12,
  [(0, .iconst 0, 0, 0, 0), (1, .istore_n 1, 0, 0, 0), (2, .iconst 0, 0, 0, 0), (3, .istore_n 2, 0, 0, 0), (4, .iload_n 2, 0, 0, 0), (5, .aload_n 0, 0, 0, 0), (6, .getfield 762, 12, 126, 8236), (9, .if_icmp .ge 27, 36, 0, 0), (36, .iload_n 1, 0, 0, 0), (37, .ireturn, 0, 0, 0)])
def zm138 : zMR := (⟨"RailwayHouseModel", "count", "(I)I"⟩, prog_14_method_172_code, 2, some .int, ⟨2, 0, 0, 42⟩, 12,
  [(0, .iload_n 1, 0, 0, 0), (1, .tableswitch 166 0 14 #[75, 80, 85, 90, 95, 100, 105, 118, 131, 136, 141, 146, 151, 156, 161], 0, 2147483648, 2147483663), (76, .aload_n 0, 0, 0, 0), (77, .getfield 455, 12, 20, 8130), (80, .ireturn, 0, 0, 0), (81, .aload_n 0, 0, 0, 0), (82, .getfield 458, 12, 27, 8137), (85, .ireturn, 0, 0, 0), (86, .aload_n 0, 0, 0, 0), (87, .getfield 513, 12, 32, 8142), (90, .ireturn, 0, 0, 0), (91, .aload_n 0, 0, 0, 0), (92, .getfield 744, 12, 104, 8214), (95, .ireturn, 0, 0, 0), (96, .aload_n 0, 0, 0, 0), (97, .getfield 723, 12, 88, 8198), (100, .ireturn, 0, 0, 0), (101, .aload_n 0, 0, 0, 0), (102, .getfield 680, 12, 87, 8197), (105, .ireturn, 0, 0, 0), (106, .aload_n 0, 0, 0, 0), (107, .getfield 603, 12, 77, 8187), (110, .ifCond .eq 7, 117, 0, 0), (117, .iconst 0, 0, 0, 0), (118, .ireturn, 0, 0, 0), (119, .aload_n 0, 0, 0, 0), (120, .getfield 616, 12, 78, 8188), (123, .ifCond .eq 7, 130, 0, 0), (130, .iconst 0, 0, 0, 0), (131, .ireturn, 0, 0, 0), (132, .aload_n 0, 0, 0, 0), (133, .getfield 630, 12, 82, 8192), (136, .ireturn, 0, 0, 0), (137, .aload_n 0, 0, 0, 0), (138, .getfield 735, 12, 106, 8216), (141, .ireturn, 0, 0, 0), (142, .aload_n 0, 0, 0, 0), (143, .getfield 812, 12, 113, 8223), (146, .ireturn, 0, 0, 0), (147, .aload_n 0, 0, 0, 0), (148, .invokevirtual 847, 137, 0, 12200), (151, .ireturn, 0, 0, 0), (152, .aload_n 0, 0, 0, 0), (153, .getfield 762, 12, 126, 8236), (156, .ireturn, 0, 0, 0), (157, .aload_n 0, 0, 0, 0), (158, .getfield 850, 12, 133, 9003), (161, .ireturn, 0, 0, 0), (162, .aload_n 0, 0, 0, 0), (163, .getfield 343, 12, 1, 8111), (166, .ireturn, 0, 0, 0), (167, .bipush (-2), 0, 0, 0), (169, .ireturn, 0, 0, 0)])
def zm139 : zMR := (⟨"RailwayHouseModel", "cut", "()I"⟩, prog_14_method_136_code, 1, some .int, ⟨1, 0, 0, 20⟩, 12,
  [(0, .aload_n 0, 0, 0, 0), (1, .getfield 616, 12, 78, 8188), (4, .ifCond .eq 6, 10, 0, 0), (10, .aload_n 0, 0, 0, 0), (11, .iconst 1, 0, 0, 0), (12, .putfield 616, 12, 78, 8188), (15, .aload_n 0, 0, 0, 0), (16, .iconst 0, 0, 0, 0), (17, .putfield 483, 12, 79, 8189), (20, .iconst 1, 0, 0, 0), (21, .ireturn, 0, 0, 0)])
def zm140 : zMR := (⟨"RailwayHouseModel", "nextOrder", "()Z"⟩, prog_14_method_168_code, 7, some .boolean, ⟨1, 0, 0, 20⟩, 12,
  [(0, .aload_n 0, 0, 0, 0), (1, .getfield 850, 12, 133, 9003), (4, .iconst 2, 0, 0, 0), (5, .isub, 0, 0, 0), (6, .istore_n 1, 0, 0, 0), (7, .iload_n 1, 0, 0, 0), (8, .ifCond .lt 26, 34, 0, 0), (34, .iload_n 1, 0, 0, 0), (35, .ifCond .ge 5, 40, 0, 0), (38, .iconst 0, 0, 0, 0), (39, .ireturn, 0, 0, 0)])
def zm141 : zMR := (⟨"RailwayHouseModel", "dispatch", "()I"⟩, prog_14_method_169_code, 5, some .int, ⟨2, 0, 0, 46⟩, 12,
  [(0, .iconst 0, 0, 0, 0), (1, .istore_n 1, 0, 0, 0), (2, .iload_n 1, 0, 0, 0), (3, .aload_n 0, 0, 0, 0), (4, .getfield 850, 12, 133, 9003), (7, .if_icmp .ge 16, 23, 0, 0), (23, .aload_n 0, 0, 0, 0), (24, .aload_n 0, 0, 0, 0), (25, .getfield 850, 12, 133, 9003), (28, .putfield 856, 12, 142, 9012), (31, .iconst (-1), 0, 0, 0), (32, .istore_n 1, 0, 0, 0), (33, .iconst 1, 0, 0, 0), (34, .istore_n 2, 0, 0, 0), (35, .iload_n 2, 0, 0, 0), (36, .ifCond .eq 87, 123, 0, 0), (39, .aload_n 0, 0, 0, 0), (40, .invokevirtual 859, 136, 0, 12228), (43, .istore_n 3, 0, 0, 0), (44, .iload_n 1, 0, 0, 0), (45, .ifCond .lt 8, 53, 0, 0), (53, .iload_n 3, 0, 0, 0), (54, .istore_n 1, 0, 0, 0), (55, .iconst 0, 0, 0, 0), (56, .istore 4, 0, 0, 0), (58, .iload 4, 0, 0, 0), (60, .aload_n 0, 0, 0, 0), (61, .getfield 850, 12, 133, 9003), (64, .if_icmp .ge 51, 115, 0, 0), (115, .aload_n 0, 0, 0, 0), (116, .invokevirtual 862, 140, 0, 12235), (119, .istore_n 2, 0, 0, 0), (120, .goto (-85), 35, 0, 0), (123, .iload_n 1, 0, 0, 0), (124, .ireturn, 0, 0, 0)])
def zm142 : zMR := (⟨"RailwayHouseModel", "end", "(I)I"⟩, prog_14_method_4_code, 2, some .int, ⟨2, 0, 0, 42⟩, 12,
  [(0, .iload_n 1, 0, 0, 0), (1, .iconst 0, 0, 0, 0), (2, .aload_n 0, 0, 0, 0), (3, .getfield 343, 12, 1, 8111), (6, .invokestatic 347, 125, 3, 10077), (9, .ifCond .ne 6, 15, 0, 0), (12, .bipush (-2), 0, 0, 0), (14, .ireturn, 0, 0, 0), (15, .aload_n 0, 0, 0, 0), (16, .iload_n 1, 0, 0, 0), (17, .putfield 343, 12, 1, 8111), (20, .iload_n 1, 0, 0, 0), (21, .ireturn, 0, 0, 0)])
def zm143 : zMR := (⟨"RailwayHouseModel", "enter", "(IIIII)I"⟩, prog_14_method_118_code, 10, some .int, ⟨3, 0, 0, 63⟩, 12,
  [(0, .aload_n 0, 0, 0, 0), (1, .iload_n 1, 0, 0, 0), (2, .invokevirtual 477, 126, 1, 10196), (5, .ifCond .eq 5, 10, 0, 0), (8, .iconst (-1), 0, 0, 0), (9, .ireturn, 0, 0, 0)])
def zm144 : zMR := (⟨"RailwayHouseModel", "fault", "(II)I"⟩, prog_14_method_93_code, 4, some .int, ⟨2, 0, 0, 42⟩, 12,
  [(0, .iload_n 1, 0, 0, 0), (1, .iconst 0, 0, 0, 0), (2, .iconst 2, 0, 0, 0), (3, .invokestatic 347, 125, 3, 10077), (6, .ifCond .ne 5, 11, 0, 0), (9, .iconst (-1), 0, 0, 0), (10, .ireturn, 0, 0, 0), (11, .iload_n 2, 0, 0, 0), (12, .iconst 0, 0, 0, 0), (13, .iconst 5, 0, 0, 0), (14, .invokestatic 347, 125, 3, 10077), (17, .ifCond .ne 6, 23, 0, 0), (20, .bipush (-2), 0, 0, 0), (22, .ireturn, 0, 0, 0), (23, .aload_n 0, 0, 0, 0), (24, .getfield 174, 12, 76, 8186), (27, .iload_n 1, 0, 0, 0), (28, .iaload, 0, 0, 0), (29, .istore_n 3, 0, 0, 0), (30, .aload_n 0, 0, 0, 0), (31, .getfield 174, 12, 76, 8186), (34, .iload_n 1, 0, 0, 0), (35, .iload_n 2, 0, 0, 0), (36, .iastore, 0, 0, 0), (37, .iload_n 3, 0, 0, 0), (38, .ireturn, 0, 0, 0)])
def zm145 : zMR := (⟨"RailwayHouseModel", "feed", "(IIIII)I"⟩, prog_14_method_3_code, 8, some .int, ⟨1, 0, 0, 20⟩, 12,
  [(0, .aload_n 0, 0, 0, 0), (1, .getfield 343, 12, 1, 8111), (4, .bipush 20, 0, 0, 0), (6, .iadd, 0, 0, 0), (7, .sipush 2000, 0, 0, 0), (10, .if_icmp .le 6, 16, 0, 0), (16, .iconst 0, 0, 0, 0), (17, .istore 6, 0, 0, 0), (19, .iload 6, 0, 0, 0), (21, .bipush 20, 0, 0, 0), (23, .if_icmp .ge 90, 113, 0, 0), (26, .iload 6, 0, 0, 0), (28, .iconst 4, 0, 0, 0), (29, .if_icmp .ge 7, 36, 0, 0), (32, .iload_n 1, 0, 0, 0), (33, .goto 39, 72, 0, 0), (36, .iload 6, 0, 0, 0), (38, .bipush 8, 0, 0, 0), (40, .if_icmp .ge 7, 47, 0, 0), (43, .iload_n 2, 0, 0, 0), (44, .goto 28, 72, 0, 0), (47, .iload 6, 0, 0, 0), (49, .bipush 12, 0, 0, 0), (51, .if_icmp .ge 7, 58, 0, 0), (54, .iload_n 3, 0, 0, 0), (55, .goto 17, 72, 0, 0), (58, .iload 6, 0, 0, 0), (60, .bipush 16, 0, 0, 0), (62, .if_icmp .ge 8, 70, 0, 0), (65, .iload 4, 0, 0, 0), (67, .goto 5, 72, 0, 0), (70, .iload 5, 0, 0, 0), (72, .istore 7, 0, 0, 0), (74, .aload_n 0, 0, 0, 0), (75, .getfield 7, 12, 0, 8110), (78, .aload_n 0, 0, 0, 0), (79, .getfield 343, 12, 1, 8111), (82, .iload 7, 0, 0, 0), (84, .bipush 24, 0, 0, 0), (86, .bipush 8, 0, 0, 0), (88, .iload 6, 0, 0, 0), (90, .iconst 4, 0, 0, 0), (91, .irem, 0, 0, 0), (92, .imul, 0, 0, 0), (93, .isub, 0, 0, 0), (94, .ishr, 0, 0, 0), (95, .i2b, 0, 0, 0), (96, .bastore, 0, 0, 0), (97, .aload_n 0, 0, 0, 0), (98, .dup, 0, 0, 0), (99, .getfield 343, 12, 1, 8111), (102, .iconst 1, 0, 0, 0), (103, .iadd, 0, 0, 0), (104, .putfield 343, 12, 1, 8111), (107, .iinc 6 1, 0, 0, 0), (110, .goto (-91), 19, 0, 0), (113, .aload_n 0, 0, 0, 0), (114, .getfield 343, 12, 1, 8111), (117, .ireturn, 0, 0, 0)])
def zm146 : zMR := (⟨"RailwayHouseModel", "findJourneys", "(II)V"⟩, prog_14_method_152_code, 6, none, ⟨1, 0, 0, 20⟩, 12,
  [(0, .iconst 0, 0, 0, 0), (1, .istore_n 3, 0, 0, 0), (2, .iload_n 3, 0, 0, 0), (3, .sipush 480, 0, 0, 0), (6, .if_icmp .ge 16, 22, 0, 0), (9, .aload_n 0, 0, 0, 0), (10, .getfield 271, 12, 119, 8229), (13, .iload_n 3, 0, 0, 0), (14, .iconst (-1), 0, 0, 0), (15, .iastore, 0, 0, 0), (16, .iinc 3 1, 0, 0, 0), (19, .goto (-17), 2, 0, 0), (22, .iconst 1, 0, 0, 0), (23, .istore_n 3, 0, 0, 0), (24, .iload_n 3, 0, 0, 0), (25, .iconst 5, 0, 0, 0), (26, .if_icmp .ge 110, 136, 0, 0), (29, .iconst 0, 0, 0, 0), (30, .istore 4, 0, 0, 0), (32, .iload 4, 0, 0, 0), (34, .aload_n 0, 0, 0, 0), (35, .getfield 812, 12, 113, 8223), (38, .if_icmp .ge 92, 130, 0, 0), (130, .iinc 3 1, 0, 0, 0), (133, .goto (-109), 24, 0, 0), (136, .return_, 0, 0, 0)])
def zm147 : zMR := (⟨"RailwayHouseModel", "force", "(III)I"⟩, prog_14_method_48_code, 4, some .int, ⟨3, 0, 0, 63⟩, 12,
  [(0, .aload_n 0, 0, 0, 0), (1, .iload_n 2, 0, 0, 0), (2, .invokevirtual 477, 126, 1, 10196), (5, .ifCond .ne 17, 22, 0, 0), (22, .iconst (-1), 0, 0, 0), (23, .ireturn, 0, 0, 0)])
def zm148 : zMR := (⟨"RailwayHouseModel", "give", "(I)I"⟩, prog_14_method_162_code, 2, some .int, ⟨2, 0, 0, 42⟩, 12,
  [(0, .iload_n 1, 0, 0, 0), (1, .iconst 0, 0, 0, 0), (2, .aload_n 0, 0, 0, 0), (3, .getfield 762, 12, 126, 8236), (6, .iconst 1, 0, 0, 0), (7, .isub, 0, 0, 0), (8, .invokestatic 347, 125, 3, 10077), (11, .ifCond .ne 5, 16, 0, 0), (14, .iconst (-1), 0, 0, 0), (15, .ireturn, 0, 0, 0)])
def zm149 : zMR := (⟨"RailwayHouseModel", "hold", "(IIII)I"⟩, prog_14_method_160_code, 7, some .int, ⟨2, 0, 0, 42⟩, 12,
  [(0, .iload_n 1, 0, 0, 0), (1, .iconst 0, 0, 0, 0), (2, .aload_n 0, 0, 0, 0), (3, .getfield 812, 12, 113, 8223), (6, .iconst 1, 0, 0, 0), (7, .isub, 0, 0, 0), (8, .invokestatic 347, 125, 3, 10077), (11, .ifCond .eq 35, 46, 0, 0), (46, .iconst (-1), 0, 0, 0), (47, .ireturn, 0, 0, 0)])
def zm150 : zMR := (⟨"RailwayHouseModel", "holdAt", "(II)I"⟩, prog_14_method_163_code, 3, some .int, ⟨2, 0, 0, 42⟩, 12,
  [(0, .iload_n 1, 0, 0, 0), (1, .iconst 0, 0, 0, 0), (2, .aload_n 0, 0, 0, 0), (3, .getfield 762, 12, 126, 8236), (6, .iconst 1, 0, 0, 0), (7, .isub, 0, 0, 0), (8, .invokestatic 347, 125, 3, 10077), (11, .ifCond .ne 5, 16, 0, 0), (14, .iconst (-1), 0, 0, 0), (15, .ireturn, 0, 0, 0)])
def zm151 : zMR := (⟨"RailwayHouseModel", "holder", "(I)I"⟩, prog_14_method_92_code, 3, some .int, ⟨3, 0, 0, 63⟩, 12,
  [(0, .aload_n 0, 0, 0, 0), (1, .iload_n 1, 0, 0, 0), (2, .invokevirtual 477, 126, 1, 10196), (5, .ifCond .eq 5, 10, 0, 0), (8, .iconst (-1), 0, 0, 0), (9, .ireturn, 0, 0, 0)])
def zm152 : zMR := (⟨"RailwayHouseModel", "house", "()I"⟩, prog_14_method_90_code, 1, some .int, ⟨1, 0, 0, 20⟩, 12,
  [(0, .aload_n 0, 0, 0, 0), (1, .getfield 171, 12, 75, 8185), (4, .iconst 0, 0, 0, 0), (5, .baload, 0, 0, 0), (6, .ifCond .eq 7, 13, 0, 0), (9, .iconst 0, 0, 0, 0), (10, .goto 30, 40, 0, 0), (40, .ireturn, 0, 0, 0)])
def zm153 : zMR := (⟨"RailwayHouseModel", "noSignal", "(I)Z"⟩, prog_14_method_25_code, 2, some .boolean, ⟨2, 0, 0, 42⟩, 12,
  [(0, .iload_n 1, 0, 0, 0), (1, .iconst 0, 0, 0, 0), (2, .aload_n 0, 0, 0, 0), (3, .getfield 458, 12, 27, 8137), (6, .iconst 1, 0, 0, 0), (7, .isub, 0, 0, 0), (8, .invokestatic 347, 125, 3, 10077), (11, .ifCond .ne 7, 18, 0, 0), (14, .iconst 1, 0, 0, 0), (15, .goto 4, 19, 0, 0), (19, .ireturn, 0, 0, 0)])
def zm154 : zMR := (⟨"RailwayHouseModel", "interpose", "(II)I"⟩, prog_14_method_126_code, 4, some .int, ⟨3, 0, 0, 63⟩, 12,
  [(0, .aload_n 0, 0, 0, 0), (1, .iload_n 1, 0, 0, 0), (2, .invokevirtual 480, 153, 1, 10204), (5, .ifCond .eq 5, 10, 0, 0), (8, .iconst (-1), 0, 0, 0), (9, .ireturn, 0, 0, 0)])
def zm155 : zMR := (⟨"RailwayHouseModel", "journey", "(III)I"⟩, prog_14_method_155_code, 6, some .int, ⟨2, 0, 0, 45⟩, 12,
  [(0, .iload_n 1, 0, 0, 0), (1, .iconst 0, 0, 0, 0), (2, .bipush 7, 0, 0, 0), (4, .invokestatic 347, 125, 3, 10077), (7, .ifCond .eq 13, 20, 0, 0), (10, .iload_n 2, 0, 0, 0), (11, .iconst 0, 0, 0, 0), (12, .bipush 7, 0, 0, 0), (14, .invokestatic 347, 125, 3, 10077), (17, .ifCond .ne 5, 22, 0, 0), (20, .iconst (-1), 0, 0, 0), (21, .ireturn, 0, 0, 0), (22, .iload_n 3, 0, 0, 0), (23, .iconst 0, 0, 0, 0), (24, .sipush 10000, 0, 0, 0), (27, .invokestatic 347, 125, 3, 10077), (30, .ifCond .eq 8, 38, 0, 0), (33, .iload_n 1, 0, 0, 0), (34, .iload_n 2, 0, 0, 0), (35, .if_icmp .ne 6, 41, 0, 0), (38, .bipush (-2), 0, 0, 0), (40, .ireturn, 0, 0, 0), (41, .aload_n 0, 0, 0, 0), (42, .iload_n 1, 0, 0, 0), (43, .iload_n 3, 0, 0, 0), (44, .invokevirtual 832, 146, 2, 12154), (47, .aload_n 0, 0, 0, 0), (48, .iconst 0, 0, 0, 0), (49, .putfield 829, 12, 121, 8231), (52, .iconst 1, 0, 0, 0), (53, .istore 4, 0, 0, 0), (55, .iload 4, 0, 0, 0), (57, .iconst 5, 0, 0, 0), (58, .if_icmp .ge 72, 130, 0, 0), (61, .iconst 0, 0, 0, 0), (62, .istore 5, 0, 0, 0), (64, .iload 5, 0, 0, 0), (66, .bipush 96, 0, 0, 0), (68, .if_icmp .ge 56, 124, 0, 0), (71, .aload_n 0, 0, 0, 0), (72, .getfield 271, 12, 119, 8229), (75, .bipush 96, 0, 0, 0), (77, .iload 4, 0, 0, 0), (79, .imul, 0, 0, 0), (80, .iload 5, 0, 0, 0), (82, .iadd, 0, 0, 0), (83, .iaload, 0, 0, 0), (84, .ifCond .lt 34, 118, 0, 0), (118, .iinc 5 1, 0, 0, 0), (121, .goto (-57), 64, 0, 0), (124, .iinc 4 1, 0, 0, 0), (127, .goto (-72), 55, 0, 0), (130, .aload_n 0, 0, 0, 0), (131, .getfield 829, 12, 121, 8231), (134, .ireturn, 0, 0, 0)])
def zm156 : zMR := (⟨"RailwayHouseModel", "noTrain", "(I)Z"⟩, prog_14_method_99_code, 2, some .boolean, ⟨2, 0, 0, 42⟩, 12,
  [(0, .iload_n 1, 0, 0, 0), (1, .iconst 0, 0, 0, 0), (2, .aload_n 0, 0, 0, 0), (3, .getfield 680, 12, 87, 8197), (6, .iconst 1, 0, 0, 0), (7, .isub, 0, 0, 0), (8, .invokestatic 347, 125, 3, 10077), (11, .ifCond .ne 7, 18, 0, 0), (14, .iconst 1, 0, 0, 0), (15, .goto 4, 19, 0, 0), (19, .ireturn, 0, 0, 0)])
def zm157 : zMR := (⟨"RailwayHouseModel", "leave", "(I)I"⟩, prog_14_method_121_code, 2, some .int, ⟨3, 0, 0, 63⟩, 12,
  [(0, .aload_n 0, 0, 0, 0), (1, .iload_n 1, 0, 0, 0), (2, .invokevirtual 738, 156, 1, 11193), (5, .ifCond .eq 5, 10, 0, 0), (8, .iconst (-1), 0, 0, 0), (9, .ireturn, 0, 0, 0)])
def zm158 : zMR := (⟨"RailwayHouseModel", "leg", "(III)I"⟩, prog_14_method_157_code, 5, some .int, ⟨2, 0, 0, 42⟩, 12,
  [(0, .iload_n 1, 0, 0, 0), (1, .iconst 0, 0, 0, 0), (2, .aload_n 0, 0, 0, 0), (3, .getfield 829, 12, 121, 8231), (6, .iconst 1, 0, 0, 0), (7, .isub, 0, 0, 0), (8, .invokestatic 347, 125, 3, 10077), (11, .ifCond .ne 5, 16, 0, 0), (14, .iconst (-1), 0, 0, 0), (15, .ireturn, 0, 0, 0)])
def zm159 : zMR := (⟨"RailwayHouseModel", "lie", "(I)I"⟩, prog_14_method_96_code, 2, some .int, ⟨4, 0, 0, 84⟩, 12,
  [(0, .aload_n 0, 0, 0, 0), (1, .iload_n 1, 0, 0, 0), (2, .invokevirtual 633, 127, 1, 11124), (5, .ifCond .eq 7, 12, 0, 0), (8, .iconst (-1), 0, 0, 0), (9, .goto 9, 18, 0, 0), (18, .ireturn, 0, 0, 0)])
def zm160 : zMR := (⟨"RailwayHouseModel", "line", "(IIIII)I"⟩, prog_14_method_164_code, 6, some .int, ⟨2, 0, 0, 42⟩, 12,
  [(0, .iload_n 1, 0, 0, 0), (1, .iconst 0, 0, 0, 0), (2, .iconst 1, 0, 0, 0), (3, .invokestatic 347, 125, 3, 10077), (6, .ifCond .eq 47, 53, 0, 0), (9, .iload_n 2, 0, 0, 0), (10, .iconst 0, 0, 0, 0), (11, .sipush 1000, 0, 0, 0), (14, .invokestatic 347, 125, 3, 10077), (17, .ifCond .eq 36, 53, 0, 0), (20, .iload_n 3, 0, 0, 0), (21, .iconst 1, 0, 0, 0), (22, .bipush 100, 0, 0, 0), (24, .invokestatic 347, 125, 3, 10077), (27, .ifCond .eq 26, 53, 0, 0), (30, .iload 4, 0, 0, 0), (32, .iconst 0, 0, 0, 0), (33, .sipush 2000, 0, 0, 0), (36, .invokestatic 347, 125, 3, 10077), (39, .ifCond .eq 14, 53, 0, 0), (42, .iload 5, 0, 0, 0), (44, .iconst 0, 0, 0, 0), (45, .bipush 20, 0, 0, 0), (47, .invokestatic 347, 125, 3, 10077), (50, .ifCond .ne 6, 56, 0, 0), (53, .bipush (-2), 0, 0, 0), (55, .ireturn, 0, 0, 0), (56, .aload_n 0, 0, 0, 0), (57, .getfield 850, 12, 133, 9003), (60, .bipush 7, 0, 0, 0), (62, .if_icmp .ne 6, 68, 0, 0), (68, .aload_n 0, 0, 0, 0), (69, .getfield 307, 12, 134, 9004), (72, .aload_n 0, 0, 0, 0), (73, .getfield 850, 12, 133, 9003), (76, .iload_n 1, 0, 0, 0), (77, .iastore, 0, 0, 0), (78, .aload_n 0, 0, 0, 0), (79, .getfield 310, 12, 135, 9005), (82, .aload_n 0, 0, 0, 0), (83, .getfield 850, 12, 133, 9003), (86, .iload_n 2, 0, 0, 0), (87, .iastore, 0, 0, 0), (88, .aload_n 0, 0, 0, 0), (89, .getfield 313, 12, 136, 9006), (92, .aload_n 0, 0, 0, 0), (93, .getfield 850, 12, 133, 9003), (96, .iload_n 3, 0, 0, 0), (97, .iastore, 0, 0, 0), (98, .aload_n 0, 0, 0, 0), (99, .getfield 316, 12, 137, 9007), (102, .aload_n 0, 0, 0, 0), (103, .getfield 850, 12, 133, 9003), (106, .iload 4, 0, 0, 0), (108, .iastore, 0, 0, 0), (109, .aload_n 0, 0, 0, 0), (110, .getfield 319, 12, 138, 9008), (113, .aload_n 0, 0, 0, 0), (114, .getfield 850, 12, 133, 9003), (117, .iload 5, 0, 0, 0), (119, .iastore, 0, 0, 0), (120, .aload_n 0, 0, 0, 0), (121, .dup, 0, 0, 0), (122, .getfield 850, 12, 133, 9003), (125, .iconst 1, 0, 0, 0), (126, .iadd, 0, 0, 0), (127, .putfield 850, 12, 133, 9003), (130, .aload_n 0, 0, 0, 0), (131, .getfield 850, 12, 133, 9003), (134, .iconst 1, 0, 0, 0), (135, .isub, 0, 0, 0), (136, .ireturn, 0, 0, 0)])
def zm161 : zMR := (⟨"RailwayHouseModel", "nextToken", "()V"⟩, prog_14_method_9_code, 3, none, ⟨2, 0, 0, 41⟩, 12,
  [(0, .aload_n 0, 0, 0, 0), (1, .aload_n 0, 0, 0, 0), (2, .getfield 360, 12, 3, 8113), (5, .invokevirtual 363, 129, 1, 10092), (8, .bipush 32, 0, 0, 0), (10, .if_icmp .eq 16, 26, 0, 0), (13, .aload_n 0, 0, 0, 0), (14, .aload_n 0, 0, 0, 0), (15, .getfield 360, 12, 3, 8113), (18, .invokevirtual 363, 129, 1, 10092), (21, .bipush 10, 0, 0, 0), (23, .if_icmp .ne 16, 39, 0, 0), (39, .aload_n 0, 0, 0, 0), (40, .aload_n 0, 0, 0, 0), (41, .getfield 360, 12, 3, 8113), (44, .putfield 367, 12, 5, 8115), (47, .aload_n 0, 0, 0, 0), (48, .aload_n 0, 0, 0, 0), (49, .getfield 360, 12, 3, 8113), (52, .invokevirtual 363, 129, 1, 10092), (55, .istore_n 1, 0, 0, 0), (56, .aload_n 0, 0, 0, 0), (57, .iload_n 1, 0, 0, 0), (58, .ifCond .ge 7, 65, 0, 0), (61, .iconst 0, 0, 0, 0), (62, .goto 36, 98, 0, 0), (98, .putfield 377, 12, 4, 8114), (101, .aload_n 0, 0, 0, 0), (102, .iconst 0, 0, 0, 0), (103, .putfield 380, 12, 6, 8116), (106, .aload_n 0, 0, 0, 0), (107, .lconst 0, 0, 0, 0), (108, .putfield 383, 12, 7, 8117), (111, .aload_n 0, 0, 0, 0), (112, .getfield 377, 12, 4, 8114), (115, .iconst 3, 0, 0, 0), (116, .if_icmp .ne 13, 129, 0, 0), (129, .aload_n 0, 0, 0, 0), (130, .getfield 377, 12, 4, 8114), (133, .iconst 1, 0, 0, 0), (134, .if_icmp .ne 73, 207, 0, 0), (207, .aload_n 0, 0, 0, 0), (208, .getfield 377, 12, 4, 8114), (211, .iconst 2, 0, 0, 0), (212, .if_icmp .ne 51, 263, 0, 0), (263, .aload_n 0, 0, 0, 0), (264, .getfield 377, 12, 4, 8114), (267, .iconst 1, 0, 0, 0), (268, .if_icmp .ne 16, 284, 0, 0), (284, .aload_n 0, 0, 0, 0), (285, .getfield 377, 12, 4, 8114), (288, .iconst 2, 0, 0, 0), (289, .if_icmp .ne 21, 310, 0, 0), (310, .iconst 0, 0, 0, 0), (311, .istore_n 2, 0, 0, 0), (312, .aload_n 0, 0, 0, 0), (313, .iload_n 2, 0, 0, 0), (314, .ifCond .eq 7, 321, 0, 0), (321, .aload_n 0, 0, 0, 0), (322, .getfield 377, 12, 4, 8114), (325, .putfield 377, 12, 4, 8114), (328, .return_, 0, 0, 0)])
def zm162 : zMR := (⟨"RailwayHouseModel", "wrong", "(II)Z"⟩, prog_14_method_5_code, 3, some .boolean, ⟨1, 0, 0, 20⟩, 12,
  [(0, .aload_n 0, 0, 0, 0), (1, .iload_n 1, 0, 0, 0), (2, .putfield 351, 12, 8, 8118), (5, .aload_n 0, 0, 0, 0), (6, .iload_n 2, 0, 0, 0), (7, .putfield 354, 12, 9, 8119), (10, .iconst 0, 0, 0, 0), (11, .ireturn, 0, 0, 0)])
def zm163 : zMR := (⟨"RailwayHouseModel", "readLayout", "()Z"⟩, prog_14_method_20_code, 3, some .boolean, ⟨3, 0, 0, 63⟩, 12,
  [(0, .aload_n 0, 0, 0, 0), (1, .iconst 0, 0, 0, 0), (2, .putfield 410, 12, 10, 8120), (5, .aload_n 0, 0, 0, 0), (6, .iconst 0, 0, 0, 0), (7, .putfield 423, 12, 17, 8127), (10, .aload_n 0, 0, 0, 0), (11, .iconst 0, 0, 0, 0), (12, .putfield 360, 12, 3, 8113), (15, .aload_n 0, 0, 0, 0), (16, .invokevirtual 397, 161, 0, 10088), (19, .aload_n 0, 0, 0, 0), (20, .getfield 377, 12, 4, 8114), (23, .ifCond .eq 12, 35, 0, 0), (35, .aload_n 0, 0, 0, 0), (36, .getfield 410, 12, 10, 8120), (39, .ifCond .le 7, 46, 0, 0), (46, .iconst 0, 0, 0, 0), (47, .istore_n 1, 0, 0, 0), (48, .iconst 0, 0, 0, 0), (49, .istore_n 2, 0, 0, 0), (50, .iload_n 2, 0, 0, 0), (51, .aload_n 0, 0, 0, 0), (52, .getfield 423, 12, 17, 8127), (55, .if_icmp .ge 44, 99, 0, 0), (99, .iload_n 1, 0, 0, 0), (100, .ifCond .ne 16, 116, 0, 0), (103, .aload_n 0, 0, 0, 0), (104, .bipush 8, 0, 0, 0), (106, .aload_n 0, 0, 0, 0), (107, .getfield 357, 12, 2, 8112), (110, .invokevirtual 387, 162, 2, 10110), (113, .ifCond .eq 7, 120, 0, 0), (120, .iconst 0, 0, 0, 0), (121, .ireturn, 0, 0, 0)])
def zm164 : zMR := (⟨"RailwayHouseModel", "load", "()I"⟩, prog_14_method_22_code, 1, some .int, ⟨4, 0, 0, 85⟩, 12,
  [(0, .aload_n 0, 0, 0, 0), (1, .aload_n 0, 0, 0, 0), (2, .getfield 343, 12, 1, 8111), (5, .putfield 357, 12, 2, 8112), (8, .aload_n 0, 0, 0, 0), (9, .iconst 0, 0, 0, 0), (10, .putfield 343, 12, 1, 8111), (13, .aload_n 0, 0, 0, 0), (14, .iconst 0, 0, 0, 0), (15, .putfield 351, 12, 8, 8118), (18, .aload_n 0, 0, 0, 0), (19, .bipush (-9), 0, 0, 0), (21, .putfield 354, 12, 9, 8119), (24, .aload_n 0, 0, 0, 0), (25, .invokevirtual 465, 163, 0, 10084), (28, .ifCond .ne 11, 39, 0, 0), (31, .bipush (-10), 0, 0, 0), (33, .aload_n 0, 0, 0, 0), (34, .getfield 351, 12, 8, 8118), (37, .isub, 0, 0, 0), (38, .ireturn, 0, 0, 0)])
def zm165 : zMR := (⟨"RailwayHouseModel", "move", "(II)I"⟩, prog_14_method_81_code, 3, some .int, ⟨4, 0, 0, 84⟩, 12,
  [(0, .aload_n 0, 0, 0, 0), (1, .iload_n 1, 0, 0, 0), (2, .invokevirtual 633, 127, 1, 11124), (5, .ifCond .eq 5, 10, 0, 0), (8, .iconst (-1), 0, 0, 0), (9, .ireturn, 0, 0, 0)])
def zm166 : zMR := (⟨"RailwayHouseModel", "option", "(II)I"⟩, prog_14_method_156_code, 3, some .int, ⟨2, 0, 0, 42⟩, 12,
  [(0, .iload_n 1, 0, 0, 0), (1, .iconst 0, 0, 0, 0), (2, .aload_n 0, 0, 0, 0), (3, .getfield 829, 12, 121, 8231), (6, .iconst 1, 0, 0, 0), (7, .isub, 0, 0, 0), (8, .invokestatic 347, 125, 3, 10077), (11, .ifCond .ne 5, 16, 0, 0), (14, .iconst (-1), 0, 0, 0), (15, .ireturn, 0, 0, 0)])
def zm167 : zMR := (⟨"RailwayHouseModel", "pay", "(I)I"⟩, prog_14_method_161_code, 2, some .int, ⟨2, 0, 0, 42⟩, 12,
  [(0, .iload_n 1, 0, 0, 0), (1, .iconst 0, 0, 0, 0), (2, .aload_n 0, 0, 0, 0), (3, .getfield 762, 12, 126, 8236), (6, .iconst 1, 0, 0, 0), (7, .isub, 0, 0, 0), (8, .invokestatic 347, 125, 3, 10077), (11, .ifCond .ne 5, 16, 0, 0), (14, .iconst (-1), 0, 0, 0), (15, .ireturn, 0, 0, 0)])
def zm168 : zMR := (⟨"RailwayHouseModel", "place", "()I"⟩, prog_14_method_23_code, 1, some .int, ⟨1, 0, 0, 20⟩, 12,
  [(0, .aload_n 0, 0, 0, 0), (1, .getfield 354, 12, 9, 8119), (4, .ireturn, 0, 0, 0)])
def zm169 : zMR := (⟨"RailwayHouseModel", "release", "(I)I"⟩, prog_14_method_80_code, 3, some .int, ⟨3, 0, 0, 63⟩, 12,
  [(0, .aload_n 0, 0, 0, 0), (1, .iload_n 1, 0, 0, 0), (2, .invokevirtual 526, 130, 1, 10212), (5, .ifCond .eq 5, 10, 0, 0), (8, .iconst (-1), 0, 0, 0), (9, .ireturn, 0, 0, 0)])
def zm170 : zMR := (⟨"RailwayHouseModel", "voters", "()I"⟩, prog_14_method_71_code, 3, some .int, ⟨1, 0, 0, 20⟩, 12,
  [(0, .iconst 0, 0, 0, 0), (1, .istore_n 1, 0, 0, 0), (2, .iconst 0, 0, 0, 0), (3, .istore_n 2, 0, 0, 0), (4, .iload_n 2, 0, 0, 0), (5, .iconst 3, 0, 0, 0), (6, .if_icmp .ge 26, 32, 0, 0), (9, .iload_n 1, 0, 0, 0), (10, .aload_n 0, 0, 0, 0), (11, .getfield 171, 12, 75, 8185), (14, .iload_n 2, 0, 0, 0), (15, .baload, 0, 0, 0), (16, .ifCond .eq 7, 23, 0, 0), (19, .iconst 1, 0, 0, 0), (20, .goto 4, 24, 0, 0), (24, .iadd, 0, 0, 0), (25, .istore_n 1, 0, 0, 0), (26, .iinc 2 1, 0, 0, 0), (29, .goto (-25), 4, 0, 0), (32, .iload_n 1, 0, 0, 0), (33, .ireturn, 0, 0, 0)])
def zm171 : zMR := (⟨"RailwayHouseModel", "reset", "()I"⟩, prog_14_method_134_code, 3, some .int, ⟨2, 0, 0, 42⟩, 12,
  [(0, .aload_n 0, 0, 0, 0), (1, .getfield 616, 12, 78, 8188), (4, .ifCond .ne 32, 36, 0, 0), (7, .aload_n 0, 0, 0, 0), (8, .getfield 603, 12, 77, 8187), (11, .ifCond .ne 11, 22, 0, 0), (14, .aload_n 0, 0, 0, 0), (15, .invokevirtual 782, 170, 0, 12082), (18, .iconst 3, 0, 0, 0), (19, .if_icmp .eq 17, 36, 0, 0), (36, .bipush (-3), 0, 0, 0), (38, .ireturn, 0, 0, 0)])
def zm172 : zMR := (⟨"RailwayHouseModel", "route", "(II)I"⟩, prog_14_method_37_code, 3, some .int, ⟨3, 0, 0, 63⟩, 12,
  [(0, .aload_n 0, 0, 0, 0), (1, .iload_n 1, 0, 0, 0), (2, .invokevirtual 526, 130, 1, 10212), (5, .ifCond .eq 5, 10, 0, 0), (8, .iconst (-1), 0, 0, 0), (9, .ireturn, 0, 0, 0)])
def zm173 : zMR := (⟨"RailwayHouseModel", "routeAt", "(III)I"⟩, prog_14_method_91_code, 6, some .int, ⟨3, 0, 0, 63⟩, 12,
  [(0, .iload_n 1, 0, 0, 0), (1, .iconst 0, 0, 0, 0), (2, .iconst 2, 0, 0, 0), (3, .invokestatic 347, 125, 3, 10077), (6, .ifCond .eq 11, 17, 0, 0), (9, .aload_n 0, 0, 0, 0), (10, .iload_n 2, 0, 0, 0), (11, .invokevirtual 526, 130, 1, 10212), (14, .ifCond .eq 5, 19, 0, 0), (17, .iconst (-1), 0, 0, 0), (18, .ireturn, 0, 0, 0)])
def zm174 : zMR := (⟨"RailwayHouseModel", "routeNeed", "(II)I"⟩, prog_14_method_39_code, 3, some .int, ⟨3, 0, 0, 63⟩, 12,
  [(0, .aload_n 0, 0, 0, 0), (1, .iload_n 1, 0, 0, 0), (2, .invokevirtual 526, 130, 1, 10212), (5, .ifCond .eq 5, 10, 0, 0), (8, .iconst (-1), 0, 0, 0), (9, .ireturn, 0, 0, 0)])
def zm175 : zMR := (⟨"RailwayHouseModel", "routeSection", "(II)I"⟩, prog_14_method_38_code, 3, some .int, ⟨3, 0, 0, 63⟩, 12,
  [(0, .aload_n 0, 0, 0, 0), (1, .iload_n 1, 0, 0, 0), (2, .invokevirtual 526, 130, 1, 10212), (5, .ifCond .eq 5, 10, 0, 0), (8, .iconst (-1), 0, 0, 0), (9, .ireturn, 0, 0, 0)])
def zm176 : zMR := (⟨"RailwayHouseModel", "run", "(I)I"⟩, prog_14_method_146_code, 2, some .int, ⟨2, 0, 0, 42⟩, 12,
  [(0, .iload_n 1, 0, 0, 0), (1, .iconst 1, 0, 0, 0), (2, .bipush 20, 0, 0, 0), (4, .invokestatic 347, 125, 3, 10077), (7, .ifCond .ne 6, 13, 0, 0), (10, .bipush (-2), 0, 0, 0), (12, .ireturn, 0, 0, 0), (13, .aload_n 0, 0, 0, 0), (14, .getfield 812, 12, 113, 8223), (17, .bipush 12, 0, 0, 0), (19, .if_icmp .ne 6, 25, 0, 0), (25, .aload_n 0, 0, 0, 0), (26, .getfield 256, 12, 114, 8224), (29, .aload_n 0, 0, 0, 0), (30, .getfield 812, 12, 113, 8223), (33, .iload_n 1, 0, 0, 0), (34, .iastore, 0, 0, 0), (35, .aload_n 0, 0, 0, 0), (36, .getfield 259, 12, 115, 8225), (39, .aload_n 0, 0, 0, 0), (40, .getfield 812, 12, 113, 8223), (43, .iconst 0, 0, 0, 0), (44, .iastore, 0, 0, 0), (45, .aload_n 0, 0, 0, 0), (46, .dup, 0, 0, 0), (47, .getfield 812, 12, 113, 8223), (50, .iconst 1, 0, 0, 0), (51, .iadd, 0, 0, 0), (52, .putfield 812, 12, 113, 8223), (55, .aload_n 0, 0, 0, 0), (56, .getfield 812, 12, 113, 8223), (59, .iconst 1, 0, 0, 0), (60, .isub, 0, 0, 0), (61, .ireturn, 0, 0, 0)])
def zm177 : zMR := (⟨"RailwayHouseModel", "section", "(II)I"⟩, prog_14_method_27_code, 3, some .int, ⟨3, 0, 0, 63⟩, 12,
  [(0, .aload_n 0, 0, 0, 0), (1, .iload_n 1, 0, 0, 0), (2, .invokevirtual 477, 126, 1, 10196), (5, .ifCond .eq 5, 10, 0, 0), (8, .iconst (-1), 0, 0, 0), (9, .ireturn, 0, 0, 0)])
def zm178 : zMR := (⟨"RailwayHouseModel", "set", "(I)I"⟩, prog_14_method_78_code, 2, some .int, ⟨3, 0, 0, 63⟩, 12,
  [(0, .aload_n 0, 0, 0, 0), (1, .iload_n 1, 0, 0, 0), (2, .invokevirtual 526, 130, 1, 10212), (5, .ifCond .eq 7, 12, 0, 0), (8, .iconst (-1), 0, 0, 0), (9, .goto 10, 19, 0, 0), (19, .ireturn, 0, 0, 0)])
def zm179 : zMR := (⟨"RailwayHouseModel", "signal", "(II)I"⟩, prog_14_method_28_code, 3, some .int, ⟨3, 0, 0, 63⟩, 12,
  [(0, .aload_n 0, 0, 0, 0), (1, .iload_n 1, 0, 0, 0), (2, .invokevirtual 480, 153, 1, 10204), (5, .ifCond .eq 5, 10, 0, 0), (8, .iconst (-1), 0, 0, 0), (9, .ireturn, 0, 0, 0)])
def zm180 : zMR := (⟨"RailwayHouseModel", "stand", "(IZ)I"⟩, prog_14_method_119_code, 4, some .int, ⟨3, 0, 0, 63⟩, 12,
  [(0, .aload_n 0, 0, 0, 0), (1, .iload_n 1, 0, 0, 0), (2, .invokevirtual 738, 156, 1, 11193), (5, .ifCond .eq 5, 10, 0, 0), (8, .iconst (-1), 0, 0, 0), (9, .ireturn, 0, 0, 0)])
def zm181 : zMR := (⟨"RailwayHouseModel", "start", "()I"⟩, prog_14_method_138_code, 3, some .int, ⟨1, 0, 0, 20⟩, 12,
  [(0, .aload_n 0, 0, 0, 0), (1, .getfield 616, 12, 78, 8188), (4, .ifCond .ne 6, 10, 0, 0), (7, .bipush (-3), 0, 0, 0), (9, .ireturn, 0, 0, 0)])
def zm182 : zMR := (⟨"RailwayHouseModel", "station", "(III)I"⟩, prog_14_method_145_code, 4, some .int, ⟨2, 0, 0, 42⟩, 12,
  [(0, .iload_n 1, 0, 0, 0), (1, .iconst 0, 0, 0, 0), (2, .bipush 7, 0, 0, 0), (4, .invokestatic 347, 125, 3, 10077), (7, .ifCond .ne 5, 12, 0, 0), (10, .iconst (-1), 0, 0, 0), (11, .ireturn, 0, 0, 0), (12, .iload_n 2, 0, 0, 0), (13, .iconst 0, 0, 0, 0), (14, .bipush 60, 0, 0, 0), (16, .invokestatic 347, 125, 3, 10077), (19, .ifCond .eq 13, 32, 0, 0), (22, .iload_n 3, 0, 0, 0), (23, .iconst 0, 0, 0, 0), (24, .bipush 9, 0, 0, 0), (26, .invokestatic 347, 125, 3, 10077), (29, .ifCond .ne 6, 35, 0, 0), (32, .bipush (-2), 0, 0, 0), (34, .ireturn, 0, 0, 0), (35, .aload_n 0, 0, 0, 0), (36, .getfield 250, 12, 111, 8221), (39, .iload_n 1, 0, 0, 0), (40, .iload_n 2, 0, 0, 0), (41, .iastore, 0, 0, 0), (42, .aload_n 0, 0, 0, 0), (43, .getfield 253, 12, 112, 8222), (46, .iload_n 1, 0, 0, 0), (47, .iload_n 3, 0, 0, 0), (48, .iastore, 0, 0, 0), (49, .iconst 1, 0, 0, 0), (50, .ireturn, 0, 0, 0)])
def zm183 : zMR := (⟨"RailwayHouseModel", "stopAt", "(IIII)I"⟩, prog_14_method_147_code, 7, some .int, ⟨2, 0, 0, 42⟩, 12,
  [(0, .iload_n 1, 0, 0, 0), (1, .iconst 0, 0, 0, 0), (2, .aload_n 0, 0, 0, 0), (3, .getfield 812, 12, 113, 8223), (6, .iconst 1, 0, 0, 0), (7, .isub, 0, 0, 0), (8, .invokestatic 347, 125, 3, 10077), (11, .ifCond .eq 13, 24, 0, 0), (24, .iconst (-1), 0, 0, 0), (25, .ireturn, 0, 0, 0)])
def zm184 : zMR := (⟨"RailwayHouseModel", "sync", "()I"⟩, prog_14_method_135_code, 3, some .int, ⟨2, 0, 0, 41⟩, 12,
  [(0, .aload_n 0, 0, 0, 0), (1, .getfield 616, 12, 78, 8188), (4, .ifCond .ne 10, 14, 0, 0), (7, .aload_n 0, 0, 0, 0), (8, .getfield 603, 12, 77, 8187), (11, .ifCond .eq 6, 17, 0, 0), (17, .aload_n 0, 0, 0, 0), (18, .iconst 0, 0, 0, 0), (19, .putfield 773, 12, 110, 8220), (22, .iconst 0, 0, 0, 0), (23, .istore_n 1, 0, 0, 0), (24, .iload_n 1, 0, 0, 0), (25, .bipush 40, 0, 0, 0), (27, .if_icmp .ge 89, 116, 0, 0), (30, .aload_n 0, 0, 0, 0), (31, .invokevirtual 670, 152, 0, 11136), (34, .iload_n 1, 0, 0, 0), (35, .invokestatic 544, 114, 2, 8091), (38, .istore_n 2, 0, 0, 0), (39, .aload_n 0, 0, 0, 0), (40, .getfield 241, 12, 107, 8217), (43, .iload_n 1, 0, 0, 0), (44, .iload_n 1, 0, 0, 0), (45, .aload_n 0, 0, 0, 0), (46, .getfield 513, 12, 32, 8142), (49, .if_icmp .ge 12, 61, 0, 0), (61, .iconst 0, 0, 0, 0), (62, .iastore, 0, 0, 0), (63, .aload_n 0, 0, 0, 0), (64, .getfield 244, 12, 108, 8218), (67, .iload_n 1, 0, 0, 0), (68, .aload_n 0, 0, 0, 0), (69, .getfield 141, 12, 65, 8175), (72, .iload_n 2, 0, 0, 0), (73, .iaload, 0, 0, 0), (74, .iastore, 0, 0, 0), (75, .aload_n 0, 0, 0, 0), (76, .getfield 247, 12, 109, 8219), (79, .iload_n 1, 0, 0, 0), (80, .aload_n 0, 0, 0, 0), (81, .getfield 144, 12, 66, 8176), (84, .iload_n 2, 0, 0, 0), (85, .iaload, 0, 0, 0), (86, .iastore, 0, 0, 0), (87, .aload_n 0, 0, 0, 0), (88, .dup, 0, 0, 0), (89, .getfield 773, 12, 110, 8220), (92, .aload_n 0, 0, 0, 0), (93, .getfield 241, 12, 107, 8217), (96, .iload_n 1, 0, 0, 0), (97, .iaload, 0, 0, 0), (98, .ifCond .le 7, 105, 0, 0), (105, .iconst 0, 0, 0, 0), (106, .iadd, 0, 0, 0), (107, .putfield 773, 12, 110, 8220), (110, .iinc 1 1, 0, 0, 0), (113, .goto (-89), 24, 0, 0), (116, .aload_n 0, 0, 0, 0), (117, .getfield 773, 12, 110, 8220), (120, .ireturn, 0, 0, 0)])
def zm185 : zMR := (⟨"RailwayHouseModel", "tick", "(I)I"⟩, prog_14_method_125_code, 3, some .int, ⟨2, 0, 0, 42⟩, 12,
  [(0, .iload_n 1, 0, 0, 0), (1, .iconst 1, 0, 0, 0), (2, .bipush 50, 0, 0, 0), (4, .invokestatic 347, 125, 3, 10077), (7, .ifCond .ne 6, 13, 0, 0), (10, .bipush (-2), 0, 0, 0), (12, .ireturn, 0, 0, 0), (13, .aload_n 0, 0, 0, 0), (14, .getfield 461, 12, 30, 8140), (17, .ifCond .ne 6, 23, 0, 0), (20, .bipush (-3), 0, 0, 0), (22, .ireturn, 0, 0, 0)])
def zm186 : zMR := (⟨"RailwayHouseModel", "train", "(II)I"⟩, prog_14_method_120_code, 3, some .int, ⟨3, 0, 0, 63⟩, 12,
  [(0, .aload_n 0, 0, 0, 0), (1, .iload_n 1, 0, 0, 0), (2, .invokevirtual 738, 156, 1, 11193), (5, .ifCond .eq 5, 10, 0, 0), (8, .iconst (-1), 0, 0, 0), (9, .ireturn, 0, 0, 0)])
def zm187 : zMR := (⟨"RailwayHouseModel", "trainOn", "(I)I"⟩, prog_14_method_122_code, 2, some .int, ⟨3, 0, 0, 63⟩, 12,
  [(0, .aload_n 0, 0, 0, 0), (1, .iload_n 1, 0, 0, 0), (2, .invokevirtual 477, 126, 1, 10196), (5, .ifCond .eq 7, 12, 0, 0), (8, .iconst (-1), 0, 0, 0), (9, .goto 8, 17, 0, 0), (17, .ireturn, 0, 0, 0)])
def zm188 : zMR := (⟨"RailwayHouseModel", "turn", "(II)I"⟩, prog_14_method_170_code, 3, some .int, ⟨2, 0, 0, 42⟩, 12,
  [(0, .iload_n 2, 0, 0, 0), (1, .iconst 0, 0, 0, 0), (2, .iconst 2, 0, 0, 0), (3, .invokestatic 347, 125, 3, 10077), (6, .ifCond .ne 6, 12, 0, 0), (9, .bipush (-2), 0, 0, 0), (11, .ireturn, 0, 0, 0), (12, .iload_n 1, 0, 0, 0), (13, .iconst 0, 0, 0, 0), (14, .aload_n 0, 0, 0, 0), (15, .getfield 856, 12, 142, 9012), (18, .iconst 1, 0, 0, 0), (19, .isub, 0, 0, 0), (20, .invokestatic 347, 125, 3, 10077), (23, .ifCond .ne 6, 29, 0, 0), (26, .bipush (-9), 0, 0, 0), (28, .ireturn, 0, 0, 0)])
def zm189 : zMR := (⟨"RailwayHouseModel", "used", "(II)I"⟩, prog_14_method_49_code, 3, some .int, ⟨3, 0, 0, 63⟩, 12,
  [(0, .aload_n 0, 0, 0, 0), (1, .iload_n 2, 0, 0, 0), (2, .invokevirtual 477, 126, 1, 10196), (5, .ifCond .ne 17, 22, 0, 0), (22, .iconst (-1), 0, 0, 0), (23, .ireturn, 0, 0, 0)])
def zms : List zMR := [zm0, zm1, zm2, zm3, zm4, zm5, zm6, zm7, zm8, zm9, zm10, zm11, zm12, zm13, zm14, zm15, zm16, zm17, zm18, zm19, zm20, zm21, zm22, zm23, zm24, zm25, zm26, zm27, zm28, zm29, zm30, zm31, zm32, zm33, zm34, zm35, zm36, zm37, zm38, zm39, zm40, zm41, zm42, zm43, zm44, zm45, zm46, zm47, zm48, zm49, zm50, zm51, zm52, zm53, zm54, zm55, zm56, zm57, zm58, zm59, zm60, zm61, zm62, zm63, zm64, zm65, zm66, zm67, zm68, zm69, zm70, zm71, zm72, zm73, zm74, zm75, zm76, zm77, zm78, zm79, zm80, zm81, zm82, zm83, zm84, zm85, zm86, zm87, zm88, zm89, zm90, zm91, zm92, zm93, zm94, zm95, zm96, zm97, zm98, zm99, zm100, zm101, zm102, zm103, zm104, zm105, zm106, zm107, zm108, zm109, zm110, zm111, zm112, zm113, zm114, zm115, zm116, zm117, zm118, zm119, zm120, zm121, zm122, zm123, zm124, zm125, zm126, zm127, zm128, zm129, zm130, zm131, zm132, zm133, zm134, zm135, zm136, zm137, zm138, zm139, zm140, zm141, zm142, zm143, zm144, zm145, zm146, zm147, zm148, zm149, zm150, zm151, zm152, zm153, zm154, zm155, zm156, zm157, zm158, zm159, zm160, zm161, zm162, zm163, zm164, zm165, zm166, zm167, zm168, zm169, zm170, zm171, zm172, zm173, zm174, zm175, zm176, zm177, zm178, zm179, zm180, zm181, zm182, zm183, zm184, zm185, zm186, zm187, zm188, zm189]
def zmL : zMR := (x, code, 4, some .boolean, room_1, 100,
  [(0, .new 7, 11, 0, 1022), (3, .dup, 0, 0, 0), (4, .invokespecial 9, 21, 0, 1024), (7, .astore_n 1, 0, 0, 0), (8, .new 10, 12, 0, 8069), (11, .dup, 0, 0, 0), (12, .invokespecial 12, 120, 0, 8071), (15, .astore_n 2, 0, 0, 0), (16, .iconst 0, 0, 0, 0), (17, .istore_n 3, 0, 0, 0), (18, .iload_n 3, 0, 0, 0), (19, .aload_n 0, 0, 0, 0), (20, .arraylength, 0, 0, 0), (21, .bipush 6, 0, 0, 0), (23, .isub, 0, 0, 0), (24, .if_icmp .gt 1762, 1786, 0, 0), (27, .aload_n 0, 0, 0, 0), (28, .iload_n 3, 0, 0, 0), (29, .iaload, 0, 0, 0), (30, .bipush 63, 0, 0, 0), (32, .iand, 0, 0, 0), (33, .tableswitch 1747 0 49 #[215, 278, 301, 314, 327, 360, 393, 426, 459, 492, 525, 548, 571, 594, 627, 670, 693, 736, 769, 802, 835, 848, 871, 920, 983, 1032, 1065, 1088, 1111, 1134, 1167, 1180, 1193, 1206, 1219, 1262, 1285, 1338, 1381, 1414, 1457, 1510, 1533, 1556, 1589, 1652, 1665, 1678, 1711, 1734], 0, 2147483648, 2147483698), (248, .aload_n 1, 0, 0, 0), (249, .aload_n 0, 0, 0, 0), (250, .iload_n 3, 0, 0, 0), (251, .iconst 1, 0, 0, 0), (252, .iadd, 0, 0, 0), (253, .iaload, 0, 0, 0), (254, .aload_n 0, 0, 0, 0), (255, .iload_n 3, 0, 0, 0), (256, .iconst 2, 0, 0, 0), (257, .iadd, 0, 0, 0), (258, .iaload, 0, 0, 0), (259, .aload_n 0, 0, 0, 0), (260, .iload_n 3, 0, 0, 0), (261, .iconst 3, 0, 0, 0), (262, .iadd, 0, 0, 0), (263, .iaload, 0, 0, 0), (264, .aload_n 0, 0, 0, 0), (265, .iload_n 3, 0, 0, 0), (266, .iconst 4, 0, 0, 0), (267, .iadd, 0, 0, 0), (268, .iaload, 0, 0, 0), (269, .aload_n 0, 0, 0, 0), (270, .iload_n 3, 0, 0, 0), (271, .iconst 5, 0, 0, 0), (272, .iadd, 0, 0, 0), (273, .iaload, 0, 0, 0), (274, .invokevirtual 13, 53, 5, 3169), (277, .aload_n 2, 0, 0, 0), (278, .aload_n 0, 0, 0, 0), (279, .iload_n 3, 0, 0, 0), (280, .iconst 1, 0, 0, 0), (281, .iadd, 0, 0, 0), (282, .iaload, 0, 0, 0), (283, .aload_n 0, 0, 0, 0), (284, .iload_n 3, 0, 0, 0), (285, .iconst 2, 0, 0, 0), (286, .iadd, 0, 0, 0), (287, .iaload, 0, 0, 0), (288, .aload_n 0, 0, 0, 0), (289, .iload_n 3, 0, 0, 0), (290, .iconst 3, 0, 0, 0), (291, .iadd, 0, 0, 0), (292, .iaload, 0, 0, 0), (293, .aload_n 0, 0, 0, 0), (294, .iload_n 3, 0, 0, 0), (295, .iconst 4, 0, 0, 0), (296, .iadd, 0, 0, 0), (297, .iaload, 0, 0, 0), (298, .aload_n 0, 0, 0, 0), (299, .iload_n 3, 0, 0, 0), (300, .iconst 5, 0, 0, 0), (301, .iadd, 0, 0, 0), (302, .iaload, 0, 0, 0), (303, .invokevirtual 17, 145, 5, 10069), (306, .if_icmp .eq 1474, 1780, 0, 0), (311, .aload_n 1, 0, 0, 0), (312, .aload_n 0, 0, 0, 0), (313, .iload_n 3, 0, 0, 0), (314, .iconst 1, 0, 0, 0), (315, .iadd, 0, 0, 0), (316, .iaload, 0, 0, 0), (317, .invokevirtual 18, 47, 1, 3182), (320, .aload_n 2, 0, 0, 0), (321, .aload_n 0, 0, 0, 0), (322, .iload_n 3, 0, 0, 0), (323, .iconst 1, 0, 0, 0), (324, .iadd, 0, 0, 0), (325, .iaload, 0, 0, 0), (326, .invokevirtual 22, 142, 1, 10073), (329, .if_icmp .eq 1451, 1780, 0, 0), (334, .aload_n 1, 0, 0, 0), (335, .invokevirtual 23, 82, 0, 3186), (338, .aload_n 2, 0, 0, 0), (339, .invokevirtual 27, 164, 0, 10080), (342, .if_icmp .eq 1438, 1780, 0, 0), (347, .aload_n 1, 0, 0, 0), (348, .invokevirtual 28, 86, 0, 4215), (351, .aload_n 2, 0, 0, 0), (352, .invokevirtual 31, 168, 0, 10188), (355, .if_icmp .eq 1425, 1780, 0, 0), (360, .aload_n 1, 0, 0, 0), (361, .aload_n 0, 0, 0, 0), (362, .iload_n 3, 0, 0, 0), (363, .iconst 1, 0, 0, 0), (364, .iadd, 0, 0, 0), (365, .iaload, 0, 0, 0), (366, .aload_n 0, 0, 0, 0), (367, .iload_n 3, 0, 0, 0), (368, .iconst 2, 0, 0, 0), (369, .iadd, 0, 0, 0), (370, .iaload, 0, 0, 0), (371, .invokevirtual 32, 97, 2, 4219), (374, .aload_n 2, 0, 0, 0), (375, .aload_n 0, 0, 0, 0), (376, .iload_n 3, 0, 0, 0), (377, .iconst 1, 0, 0, 0), (378, .iadd, 0, 0, 0), (379, .iaload, 0, 0, 0), (380, .aload_n 0, 0, 0, 0), (381, .iload_n 3, 0, 0, 0), (382, .iconst 2, 0, 0, 0), (383, .iadd, 0, 0, 0), (384, .iaload, 0, 0, 0), (385, .invokevirtual 36, 177, 2, 10192), (388, .if_icmp .eq 1392, 1780, 0, 0), (393, .aload_n 1, 0, 0, 0), (394, .aload_n 0, 0, 0, 0), (395, .iload_n 3, 0, 0, 0), (396, .iconst 1, 0, 0, 0), (397, .iadd, 0, 0, 0), (398, .iaload, 0, 0, 0), (399, .aload_n 0, 0, 0, 0), (400, .iload_n 3, 0, 0, 0), (401, .iconst 2, 0, 0, 0), (402, .iadd, 0, 0, 0), (403, .iaload, 0, 0, 0), (404, .invokevirtual 37, 99, 2, 4231), (407, .aload_n 2, 0, 0, 0), (408, .aload_n 0, 0, 0, 0), (409, .iload_n 3, 0, 0, 0), (410, .iconst 1, 0, 0, 0), (411, .iadd, 0, 0, 0), (412, .iaload, 0, 0, 0), (413, .aload_n 0, 0, 0, 0), (414, .iload_n 3, 0, 0, 0), (415, .iconst 2, 0, 0, 0), (416, .iadd, 0, 0, 0), (417, .iaload, 0, 0, 0), (418, .invokevirtual 40, 179, 2, 10200), (421, .if_icmp .eq 1359, 1780, 0, 0), (426, .aload_n 1, 0, 0, 0), (427, .aload_n 0, 0, 0, 0), (428, .iload_n 3, 0, 0, 0), (429, .iconst 1, 0, 0, 0), (430, .iadd, 0, 0, 0), (431, .iaload, 0, 0, 0), (432, .aload_n 0, 0, 0, 0), (433, .iload_n 3, 0, 0, 0), (434, .iconst 2, 0, 0, 0), (435, .iadd, 0, 0, 0), (436, .iaload, 0, 0, 0), (437, .invokevirtual 41, 91, 2, 5002), (440, .aload_n 2, 0, 0, 0), (441, .aload_n 0, 0, 0, 0), (442, .iload_n 3, 0, 0, 0), (443, .iconst 1, 0, 0, 0), (444, .iadd, 0, 0, 0), (445, .iaload, 0, 0, 0), (446, .aload_n 0, 0, 0, 0), (447, .iload_n 3, 0, 0, 0), (448, .iconst 2, 0, 0, 0), (449, .iadd, 0, 0, 0), (450, .iaload, 0, 0, 0), (451, .invokevirtual 44, 172, 2, 10208), (454, .if_icmp .eq 1326, 1780, 0, 0), (459, .aload_n 1, 0, 0, 0), (460, .aload_n 0, 0, 0, 0), (461, .iload_n 3, 0, 0, 0), (462, .iconst 1, 0, 0, 0), (463, .iadd, 0, 0, 0), (464, .iaload, 0, 0, 0), (465, .aload_n 0, 0, 0, 0), (466, .iload_n 3, 0, 0, 0), (467, .iconst 2, 0, 0, 0), (468, .iadd, 0, 0, 0), (469, .iaload, 0, 0, 0), (470, .invokevirtual 45, 94, 2, 5010), (473, .aload_n 2, 0, 0, 0), (474, .aload_n 0, 0, 0, 0), (475, .iload_n 3, 0, 0, 0), (476, .iconst 1, 0, 0, 0), (477, .iadd, 0, 0, 0), (478, .iaload, 0, 0, 0), (479, .aload_n 0, 0, 0, 0), (480, .iload_n 3, 0, 0, 0), (481, .iconst 2, 0, 0, 0), (482, .iadd, 0, 0, 0), (483, .iaload, 0, 0, 0), (484, .invokevirtual 48, 175, 2, 10216), (487, .if_icmp .eq 1293, 1780, 0, 0), (492, .aload_n 1, 0, 0, 0), (493, .aload_n 0, 0, 0, 0), (494, .iload_n 3, 0, 0, 0), (495, .iconst 1, 0, 0, 0), (496, .iadd, 0, 0, 0), (497, .iaload, 0, 0, 0), (498, .aload_n 0, 0, 0, 0), (499, .iload_n 3, 0, 0, 0), (500, .iconst 2, 0, 0, 0), (501, .iadd, 0, 0, 0), (502, .iaload, 0, 0, 0), (503, .invokevirtual 49, 93, 2, 5014), (506, .aload_n 2, 0, 0, 0), (507, .aload_n 0, 0, 0, 0), (508, .iload_n 3, 0, 0, 0), (509, .iconst 1, 0, 0, 0), (510, .iadd, 0, 0, 0), (511, .iaload, 0, 0, 0), (512, .aload_n 0, 0, 0, 0), (513, .iload_n 3, 0, 0, 0), (514, .iconst 2, 0, 0, 0), (515, .iadd, 0, 0, 0), (516, .iaload, 0, 0, 0), (517, .invokevirtual 52, 174, 2, 10220), (520, .if_icmp .eq 1260, 1780, 0, 0), (525, .aload_n 1, 0, 0, 0), (526, .aload_n 0, 0, 0, 0), (527, .iload_n 3, 0, 0, 0), (528, .iconst 1, 0, 0, 0), (529, .iadd, 0, 0, 0), (530, .iaload, 0, 0, 0), (531, .aload_n 0, 0, 0, 0), (532, .iload_n 3, 0, 0, 0), (533, .iconst 2, 0, 0, 0), (534, .iadd, 0, 0, 0), (535, .iaload, 0, 0, 0), (536, .invokevirtual 53, 39, 2, 5018), (539, .aload_n 2, 0, 0, 0), (540, .aload_n 0, 0, 0, 0), (541, .iload_n 3, 0, 0, 0), (542, .iconst 1, 0, 0, 0), (543, .iadd, 0, 0, 0), (544, .iaload, 0, 0, 0), (545, .aload_n 0, 0, 0, 0), (546, .iload_n 3, 0, 0, 0), (547, .iconst 2, 0, 0, 0), (548, .iadd, 0, 0, 0), (549, .iaload, 0, 0, 0), (550, .invokevirtual 56, 135, 2, 10224), (553, .if_icmp .eq 1227, 1780, 0, 0), (558, .aload_n 1, 0, 0, 0), (559, .aload_n 0, 0, 0, 0), (560, .iload_n 3, 0, 0, 0), (561, .iconst 1, 0, 0, 0), (562, .iadd, 0, 0, 0), (563, .iaload, 0, 0, 0), (564, .invokevirtual 57, 98, 1, 5034), (567, .aload_n 2, 0, 0, 0), (568, .aload_n 0, 0, 0, 0), (569, .iload_n 3, 0, 0, 0), (570, .iconst 1, 0, 0, 0), (571, .iadd, 0, 0, 0), (572, .iaload, 0, 0, 0), (573, .invokevirtual 60, 178, 1, 11016), (576, .if_icmp .eq 1204, 1780, 0, 0), (581, .aload_n 1, 0, 0, 0), (582, .aload_n 0, 0, 0, 0), (583, .iload_n 3, 0, 0, 0), (584, .iconst 1, 0, 0, 0), (585, .iadd, 0, 0, 0), (586, .iaload, 0, 0, 0), (587, .invokevirtual 61, 31, 1, 5117), (590, .aload_n 2, 0, 0, 0), (591, .aload_n 0, 0, 0, 0), (592, .iload_n 3, 0, 0, 0), (593, .iconst 1, 0, 0, 0), (594, .iadd, 0, 0, 0), (595, .iaload, 0, 0, 0), (596, .invokevirtual 64, 131, 1, 11112), (599, .if_icmp .eq 1181, 1780, 0, 0), (604, .aload_n 1, 0, 0, 0), (605, .aload_n 0, 0, 0, 0), (606, .iload_n 3, 0, 0, 0), (607, .iconst 1, 0, 0, 0), (608, .iadd, 0, 0, 0), (609, .iaload, 0, 0, 0), (610, .invokevirtual 65, 87, 1, 5121), (613, .aload_n 2, 0, 0, 0), (614, .aload_n 0, 0, 0, 0), (615, .iload_n 3, 0, 0, 0), (616, .iconst 1, 0, 0, 0), (617, .iadd, 0, 0, 0), (618, .iaload, 0, 0, 0), (619, .invokevirtual 68, 169, 1, 11116), (622, .if_icmp .eq 1158, 1780, 0, 0), (627, .aload_n 1, 0, 0, 0), (628, .aload_n 0, 0, 0, 0), (629, .iload_n 3, 0, 0, 0), (630, .iconst 1, 0, 0, 0), (631, .iadd, 0, 0, 0), (632, .iaload, 0, 0, 0), (633, .aload_n 0, 0, 0, 0), (634, .iload_n 3, 0, 0, 0), (635, .iconst 2, 0, 0, 0), (636, .iadd, 0, 0, 0), (637, .iaload, 0, 0, 0), (638, .invokevirtual 69, 83, 2, 5125), (641, .aload_n 2, 0, 0, 0), (642, .aload_n 0, 0, 0, 0), (643, .iload_n 3, 0, 0, 0), (644, .iconst 1, 0, 0, 0), (645, .iadd, 0, 0, 0), (646, .iaload, 0, 0, 0), (647, .aload_n 0, 0, 0, 0), (648, .iload_n 3, 0, 0, 0), (649, .iconst 2, 0, 0, 0), (650, .iadd, 0, 0, 0), (651, .iaload, 0, 0, 0), (652, .invokevirtual 72, 165, 2, 11120), (655, .if_icmp .eq 1125, 1780, 0, 0), (660, .aload_n 1, 0, 0, 0), (661, .aload_n 0, 0, 0, 0), (662, .iload_n 3, 0, 0, 0), (663, .iconst 1, 0, 0, 0), (664, .iadd, 0, 0, 0), (665, .iaload, 0, 0, 0), (666, .aload_n 0, 0, 0, 0), (667, .iload_n 3, 0, 0, 0), (668, .iconst 2, 0, 0, 0), (669, .iadd, 0, 0, 0), (670, .iaload, 0, 0, 0), (671, .aload_n 0, 0, 0, 0), (672, .iload_n 3, 0, 0, 0), (673, .iconst 3, 0, 0, 0), (674, .iadd, 0, 0, 0), (675, .iaload, 0, 0, 0), (676, .invokevirtual 73, 92, 3, 5130), (679, .aload_n 2, 0, 0, 0), (680, .aload_n 0, 0, 0, 0), (681, .iload_n 3, 0, 0, 0), (682, .iconst 1, 0, 0, 0), (683, .iadd, 0, 0, 0), (684, .iaload, 0, 0, 0), (685, .aload_n 0, 0, 0, 0), (686, .iload_n 3, 0, 0, 0), (687, .iconst 2, 0, 0, 0), (688, .iadd, 0, 0, 0), (689, .iaload, 0, 0, 0), (690, .aload_n 0, 0, 0, 0), (691, .iload_n 3, 0, 0, 0), (692, .iconst 3, 0, 0, 0), (693, .iadd, 0, 0, 0), (694, .iaload, 0, 0, 0), (695, .invokevirtual 77, 173, 3, 11128), (698, .if_icmp .eq 1082, 1780, 0, 0), (703, .aload_n 1, 0, 0, 0), (704, .aload_n 0, 0, 0, 0), (705, .iload_n 3, 0, 0, 0), (706, .iconst 1, 0, 0, 0), (707, .iadd, 0, 0, 0), (708, .iaload, 0, 0, 0), (709, .invokevirtual 78, 62, 1, 5141), (712, .aload_n 2, 0, 0, 0), (713, .aload_n 0, 0, 0, 0), (714, .iload_n 3, 0, 0, 0), (715, .iconst 1, 0, 0, 0), (716, .iadd, 0, 0, 0), (717, .iaload, 0, 0, 0), (718, .invokevirtual 81, 151, 1, 11132), (721, .if_icmp .eq 1059, 1780, 0, 0), (726, .aload_n 1, 0, 0, 0), (727, .aload_n 0, 0, 0, 0), (728, .iload_n 3, 0, 0, 0), (729, .iconst 1, 0, 0, 0), (730, .iadd, 0, 0, 0), (731, .iaload, 0, 0, 0), (732, .aload_n 0, 0, 0, 0), (733, .iload_n 3, 0, 0, 0), (734, .iconst 2, 0, 0, 0), (735, .iadd, 0, 0, 0), (736, .iaload, 0, 0, 0), (737, .aload_n 0, 0, 0, 0), (738, .iload_n 3, 0, 0, 0), (739, .iconst 3, 0, 0, 0), (740, .iadd, 0, 0, 0), (741, .iaload, 0, 0, 0), (742, .invokevirtual 82, 55, 3, 5153), (745, .aload_n 2, 0, 0, 0), (746, .aload_n 0, 0, 0, 0), (747, .iload_n 3, 0, 0, 0), (748, .iconst 1, 0, 0, 0), (749, .iadd, 0, 0, 0), (750, .iaload, 0, 0, 0), (751, .aload_n 0, 0, 0, 0), (752, .iload_n 3, 0, 0, 0), (753, .iconst 2, 0, 0, 0), (754, .iadd, 0, 0, 0), (755, .iaload, 0, 0, 0), (756, .aload_n 0, 0, 0, 0), (757, .iload_n 3, 0, 0, 0), (758, .iconst 3, 0, 0, 0), (759, .iadd, 0, 0, 0), (760, .iaload, 0, 0, 0), (761, .invokevirtual 85, 147, 3, 11000), (764, .if_icmp .eq 1016, 1780, 0, 0), (769, .aload_n 1, 0, 0, 0), (770, .aload_n 0, 0, 0, 0), (771, .iload_n 3, 0, 0, 0), (772, .iconst 1, 0, 0, 0), (773, .iadd, 0, 0, 0), (774, .iaload, 0, 0, 0), (775, .aload_n 0, 0, 0, 0), (776, .iload_n 3, 0, 0, 0), (777, .iconst 2, 0, 0, 0), (778, .iadd, 0, 0, 0), (779, .iaload, 0, 0, 0), (780, .invokevirtual 86, 110, 2, 5165), (783, .aload_n 2, 0, 0, 0), (784, .aload_n 0, 0, 0, 0), (785, .iload_n 3, 0, 0, 0), (786, .iconst 1, 0, 0, 0), (787, .iadd, 0, 0, 0), (788, .iaload, 0, 0, 0), (789, .aload_n 0, 0, 0, 0), (790, .iload_n 3, 0, 0, 0), (791, .iconst 2, 0, 0, 0), (792, .iadd, 0, 0, 0), (793, .iaload, 0, 0, 0), (794, .invokevirtual 89, 189, 2, 11004), (797, .if_icmp .eq 983, 1780, 0, 0), (802, .aload_n 1, 0, 0, 0), (803, .aload_n 0, 0, 0, 0), (804, .iload_n 3, 0, 0, 0), (805, .iconst 1, 0, 0, 0), (806, .iadd, 0, 0, 0), (807, .iaload, 0, 0, 0), (808, .aload_n 0, 0, 0, 0), (809, .iload_n 3, 0, 0, 0), (810, .iconst 2, 0, 0, 0), (811, .iadd, 0, 0, 0), (812, .iaload, 0, 0, 0), (813, .invokevirtual 90, 50, 2, 5174), (816, .aload_n 2, 0, 0, 0), (817, .aload_n 0, 0, 0, 0), (818, .iload_n 3, 0, 0, 0), (819, .iconst 1, 0, 0, 0), (820, .iadd, 0, 0, 0), (821, .iaload, 0, 0, 0), (822, .aload_n 0, 0, 0, 0), (823, .iload_n 3, 0, 0, 0), (824, .iconst 2, 0, 0, 0), (825, .iadd, 0, 0, 0), (826, .iaload, 0, 0, 0), (827, .invokevirtual 93, 144, 2, 11140), (830, .if_icmp .eq 950, 1780, 0, 0), (835, .aload_n 1, 0, 0, 0), (836, .aload_n 0, 0, 0, 0), (837, .iload_n 3, 0, 0, 0), (838, .iconst 1, 0, 0, 0), (839, .iadd, 0, 0, 0), (840, .iaload, 0, 0, 0), (841, .aload_n 0, 0, 0, 0), (842, .iload_n 3, 0, 0, 0), (843, .iconst 2, 0, 0, 0), (844, .iadd, 0, 0, 0), (845, .iaload, 0, 0, 0), (846, .invokevirtual 94, 33, 2, 5178), (849, .aload_n 2, 0, 0, 0), (850, .aload_n 0, 0, 0, 0), (851, .iload_n 3, 0, 0, 0), (852, .iconst 1, 0, 0, 0), (853, .iadd, 0, 0, 0), (854, .iaload, 0, 0, 0), (855, .aload_n 0, 0, 0, 0), (856, .iload_n 3, 0, 0, 0), (857, .iconst 2, 0, 0, 0), (858, .iadd, 0, 0, 0), (859, .iaload, 0, 0, 0), (860, .invokevirtual 97, 132, 2, 11144), (863, .if_icmp .eq 917, 1780, 0, 0), (868, .aload_n 1, 0, 0, 0), (869, .invokevirtual 98, 90, 0, 5182), (872, .aload_n 2, 0, 0, 0), (873, .invokevirtual 101, 171, 0, 12078), (876, .if_icmp .eq 904, 1780, 0, 0), (881, .aload_n 1, 0, 0, 0), (882, .aload_n 0, 0, 0, 0), (883, .iload_n 3, 0, 0, 0), (884, .iconst 1, 0, 0, 0), (885, .iadd, 0, 0, 0), (886, .iaload, 0, 0, 0), (887, .invokevirtual 102, 75, 1, 5218), (890, .aload_n 2, 0, 0, 0), (891, .aload_n 0, 0, 0, 0), (892, .iload_n 3, 0, 0, 0), (893, .iconst 1, 0, 0, 0), (894, .iadd, 0, 0, 0), (895, .iaload, 0, 0, 0), (896, .invokevirtual 105, 159, 1, 11148), (899, .if_icmp .eq 881, 1780, 0, 0), (904, .aload_n 1, 0, 0, 0), (905, .aload_n 0, 0, 0, 0), (906, .iload_n 3, 0, 0, 0), (907, .iconst 1, 0, 0, 0), (908, .iadd, 0, 0, 0), (909, .iaload, 0, 0, 0), (910, .aload_n 0, 0, 0, 0), (911, .iload_n 3, 0, 0, 0), (912, .iconst 2, 0, 0, 0), (913, .iadd, 0, 0, 0), (914, .iaload, 0, 0, 0), (915, .ifCond .eq 7, 922, 0, 0), (918, .iconst 1, 0, 0, 0), (919, .goto 4, 923, 0, 0), (922, .iconst 0, 0, 0, 0), (923, .invokevirtual 106, 29, 2, 5222), (926, .aload_n 2, 0, 0, 0), (927, .aload_n 0, 0, 0, 0), (928, .iload_n 3, 0, 0, 0), (929, .iconst 1, 0, 0, 0), (930, .iadd, 0, 0, 0), (931, .iaload, 0, 0, 0), (932, .aload_n 0, 0, 0, 0), (933, .iload_n 3, 0, 0, 0), (934, .iconst 2, 0, 0, 0), (935, .iadd, 0, 0, 0), (936, .iaload, 0, 0, 0), (937, .ifCond .eq 7, 944, 0, 0), (940, .iconst 1, 0, 0, 0), (941, .goto 4, 945, 0, 0), (944, .iconst 0, 0, 0, 0), (945, .invokevirtual 110, 128, 2, 11152), (948, .if_icmp .eq 832, 1780, 0, 0), (953, .aload_n 1, 0, 0, 0), (954, .aload_n 0, 0, 0, 0), (955, .iload_n 3, 0, 0, 0), (956, .iconst 1, 0, 0, 0), (957, .iadd, 0, 0, 0), (958, .iaload, 0, 0, 0), (959, .aload_n 0, 0, 0, 0), (960, .iload_n 3, 0, 0, 0), (961, .iconst 2, 0, 0, 0), (962, .iadd, 0, 0, 0), (963, .iaload, 0, 0, 0), (964, .aload_n 0, 0, 0, 0), (965, .iload_n 3, 0, 0, 0), (966, .iconst 3, 0, 0, 0), (967, .iadd, 0, 0, 0), (968, .iaload, 0, 0, 0), (969, .aload_n 0, 0, 0, 0), (970, .iload_n 3, 0, 0, 0), (971, .iconst 4, 0, 0, 0), (972, .iadd, 0, 0, 0), (973, .iaload, 0, 0, 0), (974, .aload_n 0, 0, 0, 0), (975, .iload_n 3, 0, 0, 0), (976, .iconst 5, 0, 0, 0), (977, .iadd, 0, 0, 0), (978, .iaload, 0, 0, 0), (979, .invokevirtual 111, 49, 5, 5227), (982, .aload_n 2, 0, 0, 0), (983, .aload_n 0, 0, 0, 0), (984, .iload_n 3, 0, 0, 0), (985, .iconst 1, 0, 0, 0), (986, .iadd, 0, 0, 0), (987, .iaload, 0, 0, 0), (988, .aload_n 0, 0, 0, 0), (989, .iload_n 3, 0, 0, 0), (990, .iconst 2, 0, 0, 0), (991, .iadd, 0, 0, 0), (992, .iaload, 0, 0, 0), (993, .aload_n 0, 0, 0, 0), (994, .iload_n 3, 0, 0, 0), (995, .iconst 3, 0, 0, 0), (996, .iadd, 0, 0, 0), (997, .iaload, 0, 0, 0), (998, .aload_n 0, 0, 0, 0), (999, .iload_n 3, 0, 0, 0), (1000, .iconst 4, 0, 0, 0), (1001, .iadd, 0, 0, 0), (1002, .iaload, 0, 0, 0), (1003, .aload_n 0, 0, 0, 0), (1004, .iload_n 3, 0, 0, 0), (1005, .iconst 5, 0, 0, 0), (1006, .iadd, 0, 0, 0), (1007, .iaload, 0, 0, 0), (1008, .invokevirtual 114, 143, 5, 11156), (1011, .if_icmp .eq 769, 1780, 0, 0), (1016, .aload_n 1, 0, 0, 0), (1017, .aload_n 0, 0, 0, 0), (1018, .iload_n 3, 0, 0, 0), (1019, .iconst 1, 0, 0, 0), (1020, .iadd, 0, 0, 0), (1021, .iaload, 0, 0, 0), (1022, .aload_n 0, 0, 0, 0), (1023, .iload_n 3, 0, 0, 0), (1024, .iconst 2, 0, 0, 0), (1025, .iadd, 0, 0, 0), (1026, .iaload, 0, 0, 0), (1027, .ifCond .eq 7, 1034, 0, 0), (1030, .iconst 1, 0, 0, 0), (1031, .goto 4, 1035, 0, 0), (1034, .iconst 0, 0, 0, 0), (1035, .invokevirtual 115, 100, 2, 6095), (1038, .aload_n 2, 0, 0, 0), (1039, .aload_n 0, 0, 0, 0), (1040, .iload_n 3, 0, 0, 0), (1041, .iconst 1, 0, 0, 0), (1042, .iadd, 0, 0, 0), (1043, .iaload, 0, 0, 0), (1044, .aload_n 0, 0, 0, 0), (1045, .iload_n 3, 0, 0, 0), (1046, .iconst 2, 0, 0, 0), (1047, .iadd, 0, 0, 0), (1048, .iaload, 0, 0, 0), (1049, .ifCond .eq 7, 1056, 0, 0), (1052, .iconst 1, 0, 0, 0), (1053, .goto 4, 1057, 0, 0), (1056, .iconst 0, 0, 0, 0), (1057, .invokevirtual 118, 180, 2, 11189), (1060, .if_icmp .eq 720, 1780, 0, 0), (1065, .aload_n 1, 0, 0, 0), (1066, .aload_n 0, 0, 0, 0), (1067, .iload_n 3, 0, 0, 0), (1068, .iconst 1, 0, 0, 0), (1069, .iadd, 0, 0, 0), (1070, .iaload, 0, 0, 0), (1071, .aload_n 0, 0, 0, 0), (1072, .iload_n 3, 0, 0, 0), (1073, .iconst 2, 0, 0, 0), (1074, .iadd, 0, 0, 0), (1075, .iaload, 0, 0, 0), (1076, .invokevirtual 119, 107, 2, 6100), (1079, .aload_n 2, 0, 0, 0), (1080, .aload_n 0, 0, 0, 0), (1081, .iload_n 3, 0, 0, 0), (1082, .iconst 1, 0, 0, 0), (1083, .iadd, 0, 0, 0), (1084, .iaload, 0, 0, 0), (1085, .aload_n 0, 0, 0, 0), (1086, .iload_n 3, 0, 0, 0), (1087, .iconst 2, 0, 0, 0), (1088, .iadd, 0, 0, 0), (1089, .iaload, 0, 0, 0), (1090, .invokevirtual 122, 186, 2, 11197), (1093, .if_icmp .eq 687, 1780, 0, 0), (1098, .aload_n 1, 0, 0, 0), (1099, .aload_n 0, 0, 0, 0), (1100, .iload_n 3, 0, 0, 0), (1101, .iconst 1, 0, 0, 0), (1102, .iadd, 0, 0, 0), (1103, .iaload, 0, 0, 0), (1104, .invokevirtual 123, 72, 1, 6115), (1107, .aload_n 2, 0, 0, 0), (1108, .aload_n 0, 0, 0, 0), (1109, .iload_n 3, 0, 0, 0), (1110, .iconst 1, 0, 0, 0), (1111, .iadd, 0, 0, 0), (1112, .iaload, 0, 0, 0), (1113, .invokevirtual 126, 157, 1, 11205), (1116, .if_icmp .eq 664, 1780, 0, 0), (1121, .aload_n 1, 0, 0, 0), (1122, .aload_n 0, 0, 0, 0), (1123, .iload_n 3, 0, 0, 0), (1124, .iconst 1, 0, 0, 0), (1125, .iadd, 0, 0, 0), (1126, .iaload, 0, 0, 0), (1127, .invokevirtual 127, 108, 1, 6139), (1130, .aload_n 2, 0, 0, 0), (1131, .aload_n 0, 0, 0, 0), (1132, .iload_n 3, 0, 0, 0), (1133, .iconst 1, 0, 0, 0), (1134, .iadd, 0, 0, 0), (1135, .iaload, 0, 0, 0), (1136, .invokevirtual 130, 187, 1, 11221), (1139, .if_icmp .eq 641, 1780, 0, 0), (1144, .aload_n 1, 0, 0, 0), (1145, .aload_n 0, 0, 0, 0), (1146, .iload_n 3, 0, 0, 0), (1147, .iconst 1, 0, 0, 0), (1148, .iadd, 0, 0, 0), (1149, .iaload, 0, 0, 0), (1150, .invokevirtual 131, 106, 1, 6143), (1153, .aload_n 2, 0, 0, 0), (1154, .aload_n 0, 0, 0, 0), (1155, .iload_n 3, 0, 0, 0), (1156, .iconst 1, 0, 0, 0), (1157, .iadd, 0, 0, 0), (1158, .iaload, 0, 0, 0), (1159, .invokevirtual 134, 185, 1, 11225), (1162, .if_icmp .eq 618, 1780, 0, 0), (1167, .aload_n 1, 0, 0, 0), (1168, .aload_n 0, 0, 0, 0), (1169, .iload_n 3, 0, 0, 0), (1170, .iconst 1, 0, 0, 0), (1171, .iadd, 0, 0, 0), (1172, .iaload, 0, 0, 0), (1173, .aload_n 0, 0, 0, 0), (1174, .iload_n 3, 0, 0, 0), (1175, .iconst 2, 0, 0, 0), (1176, .iadd, 0, 0, 0), (1177, .iaload, 0, 0, 0), (1178, .invokevirtual 135, 64, 2, 7055), (1181, .aload_n 2, 0, 0, 0), (1182, .aload_n 0, 0, 0, 0), (1183, .iload_n 3, 0, 0, 0), (1184, .iconst 1, 0, 0, 0), (1185, .iadd, 0, 0, 0), (1186, .iaload, 0, 0, 0), (1187, .aload_n 0, 0, 0, 0), (1188, .iload_n 3, 0, 0, 0), (1189, .iconst 2, 0, 0, 0), (1190, .iadd, 0, 0, 0), (1191, .iaload, 0, 0, 0), (1192, .invokevirtual 138, 154, 2, 12074), (1195, .if_icmp .eq 585, 1780, 0, 0), (1200, .aload_n 1, 0, 0, 0), (1201, .invokevirtual 139, 27, 0, 7059), (1204, .aload_n 2, 0, 0, 0), (1205, .invokevirtual 142, 124, 0, 12114), (1208, .if_icmp .eq 572, 1780, 0, 0), (1213, .aload_n 1, 0, 0, 0), (1214, .invokevirtual 143, 105, 0, 7088), (1217, .aload_n 2, 0, 0, 0), (1218, .invokevirtual 146, 184, 0, 12098), (1221, .if_icmp .eq 559, 1780, 0, 0), (1226, .aload_n 1, 0, 0, 0), (1227, .invokevirtual 147, 42, 0, 7097), (1230, .aload_n 2, 0, 0, 0), (1231, .invokevirtual 150, 139, 0, 12102), (1234, .if_icmp .eq 546, 1780, 0, 0), (1239, .aload_n 1, 0, 0, 0), (1240, .invokevirtual 151, 101, 0, 7105), (1243, .aload_n 2, 0, 0, 0), (1244, .invokevirtual 154, 181, 0, 12106), (1247, .if_icmp .eq 533, 1780, 0, 0), (1252, .aload_n 1, 0, 0, 0), (1253, .aload_n 0, 0, 0, 0), (1254, .iload_n 3, 0, 0, 0), (1255, .iconst 1, 0, 0, 0), (1256, .iadd, 0, 0, 0), (1257, .iaload, 0, 0, 0), (1258, .aload_n 0, 0, 0, 0), (1259, .iload_n 3, 0, 0, 0), (1260, .iconst 2, 0, 0, 0), (1261, .iadd, 0, 0, 0), (1262, .iaload, 0, 0, 0), (1263, .aload_n 0, 0, 0, 0), (1264, .iload_n 3, 0, 0, 0), (1265, .iconst 3, 0, 0, 0), (1266, .iadd, 0, 0, 0), (1267, .iaload, 0, 0, 0), (1268, .invokevirtual 155, 102, 3, 7119), (1271, .aload_n 2, 0, 0, 0), (1272, .aload_n 0, 0, 0, 0), (1273, .iload_n 3, 0, 0, 0), (1274, .iconst 1, 0, 0, 0), (1275, .iadd, 0, 0, 0), (1276, .iaload, 0, 0, 0), (1277, .aload_n 0, 0, 0, 0), (1278, .iload_n 3, 0, 0, 0), (1279, .iconst 2, 0, 0, 0), (1280, .iadd, 0, 0, 0), (1281, .iaload, 0, 0, 0), (1282, .aload_n 0, 0, 0, 0), (1283, .iload_n 3, 0, 0, 0), (1284, .iconst 3, 0, 0, 0), (1285, .iadd, 0, 0, 0), (1286, .iaload, 0, 0, 0), (1287, .invokevirtual 158, 182, 3, 12138), (1290, .if_icmp .eq 490, 1780, 0, 0), (1295, .aload_n 1, 0, 0, 0), (1296, .aload_n 0, 0, 0, 0), (1297, .iload_n 3, 0, 0, 0), (1298, .iconst 1, 0, 0, 0), (1299, .iadd, 0, 0, 0), (1300, .iaload, 0, 0, 0), (1301, .invokevirtual 159, 96, 1, 7126), (1304, .aload_n 2, 0, 0, 0), (1305, .aload_n 0, 0, 0, 0), (1306, .iload_n 3, 0, 0, 0), (1307, .iconst 1, 0, 0, 0), (1308, .iadd, 0, 0, 0), (1309, .iaload, 0, 0, 0), (1310, .invokevirtual 162, 176, 1, 12142), (1313, .if_icmp .eq 467, 1780, 0, 0), (1318, .aload_n 1, 0, 0, 0), (1319, .aload_n 0, 0, 0, 0), (1320, .iload_n 3, 0, 0, 0), (1321, .iconst 1, 0, 0, 0), (1322, .iadd, 0, 0, 0), (1323, .iaload, 0, 0, 0), (1324, .aload_n 0, 0, 0, 0), (1325, .iload_n 3, 0, 0, 0), (1326, .iconst 2, 0, 0, 0), (1327, .iadd, 0, 0, 0), (1328, .iaload, 0, 0, 0), (1329, .aload_n 0, 0, 0, 0), (1330, .iload_n 3, 0, 0, 0), (1331, .iconst 3, 0, 0, 0), (1332, .iadd, 0, 0, 0), (1333, .iaload, 0, 0, 0), (1334, .aload_n 0, 0, 0, 0), (1335, .iload_n 3, 0, 0, 0), (1336, .iconst 4, 0, 0, 0), (1337, .iadd, 0, 0, 0), (1338, .iaload, 0, 0, 0), (1339, .invokevirtual 163, 103, 4, 7134), (1342, .aload_n 2, 0, 0, 0), (1343, .aload_n 0, 0, 0, 0), (1344, .iload_n 3, 0, 0, 0), (1345, .iconst 1, 0, 0, 0), (1346, .iadd, 0, 0, 0), (1347, .iaload, 0, 0, 0), (1348, .aload_n 0, 0, 0, 0), (1349, .iload_n 3, 0, 0, 0), (1350, .iconst 2, 0, 0, 0), (1351, .iadd, 0, 0, 0), (1352, .iaload, 0, 0, 0), (1353, .aload_n 0, 0, 0, 0), (1354, .iload_n 3, 0, 0, 0), (1355, .iconst 3, 0, 0, 0), (1356, .iadd, 0, 0, 0), (1357, .iaload, 0, 0, 0), (1358, .aload_n 0, 0, 0, 0), (1359, .iload_n 3, 0, 0, 0), (1360, .iconst 4, 0, 0, 0), (1361, .iadd, 0, 0, 0), (1362, .iaload, 0, 0, 0), (1363, .invokevirtual 167, 183, 4, 12146), (1366, .if_icmp .eq 414, 1780, 0, 0), (1371, .aload_n 1, 0, 0, 0), (1372, .aload_n 0, 0, 0, 0), (1373, .iload_n 3, 0, 0, 0), (1374, .iconst 1, 0, 0, 0), (1375, .iadd, 0, 0, 0), (1376, .iaload, 0, 0, 0), (1377, .aload_n 0, 0, 0, 0), (1378, .iload_n 3, 0, 0, 0), (1379, .iconst 2, 0, 0, 0), (1380, .iadd, 0, 0, 0), (1381, .iaload, 0, 0, 0), (1382, .aload_n 0, 0, 0, 0), (1383, .iload_n 3, 0, 0, 0), (1384, .iconst 3, 0, 0, 0), (1385, .iadd, 0, 0, 0), (1386, .iaload, 0, 0, 0), (1387, .invokevirtual 168, 70, 3, 7150), (1390, .aload_n 2, 0, 0, 0), (1391, .aload_n 0, 0, 0, 0), (1392, .iload_n 3, 0, 0, 0), (1393, .iconst 1, 0, 0, 0), (1394, .iadd, 0, 0, 0), (1395, .iaload, 0, 0, 0), (1396, .aload_n 0, 0, 0, 0), (1397, .iload_n 3, 0, 0, 0), (1398, .iconst 2, 0, 0, 0), (1399, .iadd, 0, 0, 0), (1400, .iaload, 0, 0, 0), (1401, .aload_n 0, 0, 0, 0), (1402, .iload_n 3, 0, 0, 0), (1403, .iconst 3, 0, 0, 0), (1404, .iadd, 0, 0, 0), (1405, .iaload, 0, 0, 0), (1406, .invokevirtual 171, 155, 3, 12150), (1409, .if_icmp .eq 371, 1780, 0, 0), (1414, .aload_n 1, 0, 0, 0), (1415, .aload_n 0, 0, 0, 0), (1416, .iload_n 3, 0, 0, 0), (1417, .iconst 1, 0, 0, 0), (1418, .iadd, 0, 0, 0), (1419, .iaload, 0, 0, 0), (1420, .aload_n 0, 0, 0, 0), (1421, .iload_n 3, 0, 0, 0), (1422, .iconst 2, 0, 0, 0), (1423, .iadd, 0, 0, 0), (1424, .iaload, 0, 0, 0), (1425, .invokevirtual 172, 84, 2, 7200), (1428, .aload_n 2, 0, 0, 0), (1429, .aload_n 0, 0, 0, 0), (1430, .iload_n 3, 0, 0, 0), (1431, .iconst 1, 0, 0, 0), (1432, .iadd, 0, 0, 0), (1433, .iaload, 0, 0, 0), (1434, .aload_n 0, 0, 0, 0), (1435, .iload_n 3, 0, 0, 0), (1436, .iconst 2, 0, 0, 0), (1437, .iadd, 0, 0, 0), (1438, .iaload, 0, 0, 0), (1439, .invokevirtual 175, 166, 2, 12182), (1442, .if_icmp .eq 338, 1780, 0, 0), (1447, .aload_n 1, 0, 0, 0), (1448, .aload_n 0, 0, 0, 0), (1449, .iload_n 3, 0, 0, 0), (1450, .iconst 1, 0, 0, 0), (1451, .iadd, 0, 0, 0), (1452, .iaload, 0, 0, 0), (1453, .aload_n 0, 0, 0, 0), (1454, .iload_n 3, 0, 0, 0), (1455, .iconst 2, 0, 0, 0), (1456, .iadd, 0, 0, 0), (1457, .iaload, 0, 0, 0), (1458, .aload_n 0, 0, 0, 0), (1459, .iload_n 3, 0, 0, 0), (1460, .iconst 3, 0, 0, 0), (1461, .iadd, 0, 0, 0), (1462, .iaload, 0, 0, 0), (1463, .invokevirtual 176, 74, 3, 7208), (1466, .aload_n 2, 0, 0, 0), (1467, .aload_n 0, 0, 0, 0), (1468, .iload_n 3, 0, 0, 0), (1469, .iconst 1, 0, 0, 0), (1470, .iadd, 0, 0, 0), (1471, .iaload, 0, 0, 0), (1472, .aload_n 0, 0, 0, 0), (1473, .iload_n 3, 0, 0, 0), (1474, .iconst 2, 0, 0, 0), (1475, .iadd, 0, 0, 0), (1476, .iaload, 0, 0, 0), (1477, .aload_n 0, 0, 0, 0), (1478, .iload_n 3, 0, 0, 0), (1479, .iconst 3, 0, 0, 0), (1480, .iadd, 0, 0, 0), (1481, .iaload, 0, 0, 0), (1482, .invokevirtual 179, 158, 3, 12186), (1485, .if_icmp .eq 295, 1780, 0, 0), (1490, .aload_n 1, 0, 0, 0), (1491, .aload_n 0, 0, 0, 0), (1492, .iload_n 3, 0, 0, 0), (1493, .iconst 1, 0, 0, 0), (1494, .iadd, 0, 0, 0), (1495, .iaload, 0, 0, 0), (1496, .aload_n 0, 0, 0, 0), (1497, .iload_n 3, 0, 0, 0), (1498, .iconst 2, 0, 0, 0), (1499, .iadd, 0, 0, 0), (1500, .iaload, 0, 0, 0), (1501, .aload_n 0, 0, 0, 0), (1502, .iload_n 3, 0, 0, 0), (1503, .iconst 3, 0, 0, 0), (1504, .iadd, 0, 0, 0), (1505, .iaload, 0, 0, 0), (1506, .aload_n 0, 0, 0, 0), (1507, .iload_n 3, 0, 0, 0), (1508, .iconst 4, 0, 0, 0), (1509, .iadd, 0, 0, 0), (1510, .iaload, 0, 0, 0), (1511, .invokevirtual 180, 60, 4, 7216), (1514, .aload_n 2, 0, 0, 0), (1515, .aload_n 0, 0, 0, 0), (1516, .iload_n 3, 0, 0, 0), (1517, .iconst 1, 0, 0, 0), (1518, .iadd, 0, 0, 0), (1519, .iaload, 0, 0, 0), (1520, .aload_n 0, 0, 0, 0), (1521, .iload_n 3, 0, 0, 0), (1522, .iconst 2, 0, 0, 0), (1523, .iadd, 0, 0, 0), (1524, .iaload, 0, 0, 0), (1525, .aload_n 0, 0, 0, 0), (1526, .iload_n 3, 0, 0, 0), (1527, .iconst 3, 0, 0, 0), (1528, .iadd, 0, 0, 0), (1529, .iaload, 0, 0, 0), (1530, .aload_n 0, 0, 0, 0), (1531, .iload_n 3, 0, 0, 0), (1532, .iconst 4, 0, 0, 0), (1533, .iadd, 0, 0, 0), (1534, .iaload, 0, 0, 0), (1535, .invokevirtual 183, 149, 4, 12191), (1538, .if_icmp .eq 242, 1780, 0, 0), (1543, .aload_n 1, 0, 0, 0), (1544, .aload_n 0, 0, 0, 0), (1545, .iload_n 3, 0, 0, 0), (1546, .iconst 1, 0, 0, 0), (1547, .iadd, 0, 0, 0), (1548, .iaload, 0, 0, 0), (1549, .invokevirtual 184, 85, 1, 7235), (1552, .aload_n 2, 0, 0, 0), (1553, .aload_n 0, 0, 0, 0), (1554, .iload_n 3, 0, 0, 0), (1555, .iconst 1, 0, 0, 0), (1556, .iadd, 0, 0, 0), (1557, .iaload, 0, 0, 0), (1558, .invokevirtual 187, 167, 1, 12204), (1561, .if_icmp .eq 219, 1780, 0, 0), (1566, .aload_n 1, 0, 0, 0), (1567, .aload_n 0, 0, 0, 0), (1568, .iload_n 3, 0, 0, 0), (1569, .iconst 1, 0, 0, 0), (1570, .iadd, 0, 0, 0), (1571, .iaload, 0, 0, 0), (1572, .invokevirtual 188, 57, 1, 8003), (1575, .aload_n 2, 0, 0, 0), (1576, .aload_n 0, 0, 0, 0), (1577, .iload_n 3, 0, 0, 0), (1578, .iconst 1, 0, 0, 0), (1579, .iadd, 0, 0, 0), (1580, .iaload, 0, 0, 0), (1581, .invokevirtual 191, 148, 1, 12208), (1584, .if_icmp .eq 196, 1780, 0, 0), (1589, .aload_n 1, 0, 0, 0), (1590, .aload_n 0, 0, 0, 0), (1591, .iload_n 3, 0, 0, 0), (1592, .iconst 1, 0, 0, 0), (1593, .iadd, 0, 0, 0), (1594, .iaload, 0, 0, 0), (1595, .aload_n 0, 0, 0, 0), (1596, .iload_n 3, 0, 0, 0), (1597, .iconst 2, 0, 0, 0), (1598, .iadd, 0, 0, 0), (1599, .iaload, 0, 0, 0), (1600, .invokevirtual 192, 61, 2, 8008), (1603, .aload_n 2, 0, 0, 0), (1604, .aload_n 0, 0, 0, 0), (1605, .iload_n 3, 0, 0, 0), (1606, .iconst 1, 0, 0, 0), (1607, .iadd, 0, 0, 0), (1608, .iaload, 0, 0, 0), (1609, .aload_n 0, 0, 0, 0), (1610, .iload_n 3, 0, 0, 0), (1611, .iconst 2, 0, 0, 0), (1612, .iadd, 0, 0, 0), (1613, .iaload, 0, 0, 0), (1614, .invokevirtual 195, 150, 2, 12212), (1617, .if_icmp .eq 163, 1780, 0, 0), (1622, .aload_n 1, 0, 0, 0), (1623, .aload_n 0, 0, 0, 0), (1624, .iload_n 3, 0, 0, 0), (1625, .iconst 1, 0, 0, 0), (1626, .iadd, 0, 0, 0), (1627, .iaload, 0, 0, 0), (1628, .aload_n 0, 0, 0, 0), (1629, .iload_n 3, 0, 0, 0), (1630, .iconst 2, 0, 0, 0), (1631, .iadd, 0, 0, 0), (1632, .iaload, 0, 0, 0), (1633, .aload_n 0, 0, 0, 0), (1634, .iload_n 3, 0, 0, 0), (1635, .iconst 3, 0, 0, 0), (1636, .iadd, 0, 0, 0), (1637, .iaload, 0, 0, 0), (1638, .aload_n 0, 0, 0, 0), (1639, .iload_n 3, 0, 0, 0), (1640, .iconst 4, 0, 0, 0), (1641, .iadd, 0, 0, 0), (1642, .iaload, 0, 0, 0), (1643, .aload_n 0, 0, 0, 0), (1644, .iload_n 3, 0, 0, 0), (1645, .iconst 5, 0, 0, 0), (1646, .iadd, 0, 0, 0), (1647, .iaload, 0, 0, 0), (1648, .invokevirtual 196, 77, 5, 8012), (1651, .aload_n 2, 0, 0, 0), (1652, .aload_n 0, 0, 0, 0), (1653, .iload_n 3, 0, 0, 0), (1654, .iconst 1, 0, 0, 0), (1655, .iadd, 0, 0, 0), (1656, .iaload, 0, 0, 0), (1657, .aload_n 0, 0, 0, 0), (1658, .iload_n 3, 0, 0, 0), (1659, .iconst 2, 0, 0, 0), (1660, .iadd, 0, 0, 0), (1661, .iaload, 0, 0, 0), (1662, .aload_n 0, 0, 0, 0), (1663, .iload_n 3, 0, 0, 0), (1664, .iconst 3, 0, 0, 0), (1665, .iadd, 0, 0, 0), (1666, .iaload, 0, 0, 0), (1667, .aload_n 0, 0, 0, 0), (1668, .iload_n 3, 0, 0, 0), (1669, .iconst 4, 0, 0, 0), (1670, .iadd, 0, 0, 0), (1671, .iaload, 0, 0, 0), (1672, .aload_n 0, 0, 0, 0), (1673, .iload_n 3, 0, 0, 0), (1674, .iconst 5, 0, 0, 0), (1675, .iadd, 0, 0, 0), (1676, .iaload, 0, 0, 0), (1677, .invokevirtual 199, 160, 5, 12216), (1680, .if_icmp .eq 100, 1780, 0, 0), (1685, .aload_n 1, 0, 0, 0), (1686, .invokevirtual 200, 38, 0, 8020), (1689, .aload_n 2, 0, 0, 0), (1690, .invokevirtual 203, 134, 0, 12220), (1693, .if_icmp .eq 87, 1780, 0, 0), (1698, .aload_n 1, 0, 0, 0), (1699, .invokevirtual 204, 46, 0, 8024), (1702, .aload_n 2, 0, 0, 0), (1703, .invokevirtual 207, 141, 0, 12224), (1706, .if_icmp .eq 74, 1780, 0, 0), (1711, .aload_n 1, 0, 0, 0), (1712, .aload_n 0, 0, 0, 0), (1713, .iload_n 3, 0, 0, 0), (1714, .iconst 1, 0, 0, 0), (1715, .iadd, 0, 0, 0), (1716, .iaload, 0, 0, 0), (1717, .aload_n 0, 0, 0, 0), (1718, .iload_n 3, 0, 0, 0), (1719, .iconst 2, 0, 0, 0), (1720, .iadd, 0, 0, 0), (1721, .iaload, 0, 0, 0), (1722, .invokevirtual 208, 109, 2, 8047), (1725, .aload_n 2, 0, 0, 0), (1726, .aload_n 0, 0, 0, 0), (1727, .iload_n 3, 0, 0, 0), (1728, .iconst 1, 0, 0, 0), (1729, .iadd, 0, 0, 0), (1730, .iaload, 0, 0, 0), (1731, .aload_n 0, 0, 0, 0), (1732, .iload_n 3, 0, 0, 0), (1733, .iconst 2, 0, 0, 0), (1734, .iadd, 0, 0, 0), (1735, .iaload, 0, 0, 0), (1736, .invokevirtual 211, 188, 2, 12239), (1739, .if_icmp .eq 41, 1780, 0, 0), (1744, .aload_n 1, 0, 0, 0), (1745, .aload_n 0, 0, 0, 0), (1746, .iload_n 3, 0, 0, 0), (1747, .iconst 1, 0, 0, 0), (1748, .iadd, 0, 0, 0), (1749, .iaload, 0, 0, 0), (1750, .invokevirtual 212, 40, 1, 8055), (1753, .aload_n 2, 0, 0, 0), (1754, .aload_n 0, 0, 0, 0), (1755, .iload_n 3, 0, 0, 0), (1756, .iconst 1, 0, 0, 0), (1757, .iadd, 0, 0, 0), (1758, .iaload, 0, 0, 0), (1759, .invokevirtual 215, 138, 1, 13003), (1762, .if_icmp .eq 18, 1780, 0, 0), (1767, .aload_n 1, 0, 0, 0), (1768, .invokevirtual 216, 37, 0, 8059), (1771, .aload_n 2, 0, 0, 0), (1772, .invokevirtual 219, 133, 0, 13007), (1775, .if_icmp .eq 5, 1780, 0, 0), (1780, .iinc 3 6, 0, 0, 0), (1783, .goto (-1765), 18, 0, 0), (1786, .iconst 1, 0, 0, 0), (1787, .ireturn, 0, 0, 0)])
end
section
-- the machine's steps, all together
theorem z_snd {tb : zTB} {nw : List Jvm.Cond} {cls : List vw_C} {zty : List (Nat → FieldType)} {zdv : List (List zAV)} {ms : List zMR} {l : Launch} {D : va_G} {sg : Nat → Int32} {b : Nat} (hA : z_All tb nw cls zty zdv ms) : ∀ n, z_Snd tb nw cls zty zdv ms l D sg b n
  | 0 => fun p e R s m args below meth c A ad0 lx mr Q _ k _ _ H locs cw tys ls cst cd pc lo st ce sl env w _ _ _ _ _ h => absurd (show false = true from h) Bool.false_ne_true
  | n + 1 => z_step_ok hA (z_snd hA n)
-- a class, as the tables have it
noncomputable def z_okC (tb : zTB) (c : vw_C) (ty : Nat → FieldType) (dv : List zAV) (ps : List Nat) (p1 p2 : Nat) : Bool :=
  and (and (z_w tb p1 (.instantiable c.1 c.2.2)) (z_w tb p2 (.initialized c.1))) (and ((List.range c.2.2).all (fun k => z_w tb (ps.getD k 0) (u_lay c.1 c.2.1 k))) (and (dv.all z_cvo) ((List.range c.2.2).all (fun k => and (decide (parseFieldDescriptor (c.2.1 k).2.2.1 = some (ty k))) (decide (defaultValue (ty k) = vp_V (dv.map z_cv) k))))))
theorem z_okC_ok {tb : zTB} {c : vw_C} {ty : Nat → FieldType} {dv : List zAV} {ps : List Nat} {p1 p2 : Nat} (h : z_okC tb c ty dv ps p1 p2 = true) (hn : ∀ a, a < c.2.2 → ∀ b, b < c.2.2 → a ≠ b → (c.2.1 a).2.1 ≠ (c.2.1 b).2.1) {zty : List (Nat → FieldType)} {zdv : List (List zAV)} {ci : Nat} (h1 : zty[ci]? = some ty) (h2 : zdv[ci]? = some dv) :
    (∀ x ∈ u_ws c.1 c.2.1 c.2.2, x ∈ z_G tb) ∧ (∀ a, a < c.2.2 → ∀ b, b < c.2.2 → a ≠ b → (c.2.1 a).2.1 ≠ (c.2.1 b).2.1) ∧ Jvm.Cond.instantiable c.1 c.2.2 ∈ z_G tb ∧ Jvm.Cond.initialized c.1 ∈ z_G tb ∧ ∃ (ty : Nat → FieldType) (dv : List zAV), zty[ci]? = some ty ∧ zdv[ci]? = some dv ∧ (∀ k, k < c.2.2 → parseFieldDescriptor (c.2.1 k).2.2.1 = some (ty k)) ∧ dv.all z_cvo = true ∧ ∀ j, j < c.2.2 → defaultValue (ty j) = vp_V (dv.map z_cv) j := by
  obtain ⟨a, b⟩ := z_and h
  obtain ⟨a1, a2⟩ := z_and a
  obtain ⟨b1, b2⟩ := z_and b
  obtain ⟨b3, b4⟩ := z_and b2
  have b5 := List.all_eq_true.mp b4
  refine ⟨fun x hx => ?_, hn, z_w_ok a1, z_w_ok a2, ty, dv, h1, h2, fun k hk => ?_, b3, fun k hk => ?_⟩
  · obtain ⟨k, hk, rfl⟩ := List.mem_map.mp hx
    exact z_w_ok (List.all_eq_true.mp b1 k hk)
  · exact of_decide_eq_true (z_and (b5 k (List.mem_range.mpr hk))).1
  · exact of_decide_eq_true (z_and (b5 k (List.mem_range.mpr hk))).2
-- a method, as the tables have it
def z_okP (tb : zTB) (nw : List Jvm.Cond) (cls : List vw_C) (ms : List zMR) (cm : zMR) : Prop := ((∃ p1 p2 p3 p4, z_okM tb cls cm p1 p2 p3 p4 = true) ∧ Jvm.Cond.code (z_y cm) (z_cc cm) (z_mL cm) (z_rt cm) ∈ z_G tb) ∧ ∀ x ∈ z_cd cm, z_okE tb nw cls ms cm x = true
theorem z_okP_of {tb : zTB} {nw : List Jvm.Cond} {cls : List vw_C} {ms : List zMR} {cm : zMR} (p1 p2 p3 p4 : Nat) (h0 : Jvm.Cond.code (z_y cm) (z_cc cm) (z_mL cm) (z_rt cm) ∈ z_G tb) (h1 : z_okM tb cls cm p1 p2 p3 p4 = true) (h2 : (z_cd cm).all (z_okE tb nw cls ms cm) = true) : z_okP tb nw cls ms cm := ⟨⟨⟨p1, p2, p3, p4, h1⟩, h0⟩, List.all_eq_true.mp h2⟩
theorem z_codeIn {tb : zTB} {ch i : Nat} {l : List Jvm.Cond} {y : MethodName} {cc : ByteArray} {mL : Nat} {rt : Option FieldType} (h1 : tb[ch]? = some l) (h2 : l[i]? = some (.code y cc mL rt)) : Jvm.Cond.code y cc mL rt ∈ z_G tb := List.mem_filter.mpr ⟨List.mem_flatten.mpr ⟨l, List.mem_of_getElem? h1, List.mem_of_getElem? h2⟩, rfl⟩
-- words that are no good words: nests, rows of objects
noncomputable def z_w0 (tb : zTB) (n : Nat) (c : Jvm.Cond) : Bool := match z_at tb (n / 1000) with
  | some l => decide (z_at l (n % 1000) = some c)
  | none => false
theorem z_w0_ok {tb : zTB} {n : Nat} {c : Jvm.Cond} (h : z_w0 tb n c = true) : c ∈ tb.flatten := by
  unfold z_w0 at h
  rw [z_at_eq] at h
  cases hl : tb[n / 1000]? with
  | none => rw [hl] at h; cases h
  | some l =>
    rw [hl] at h
    have h1 := of_decide_eq_true h
    rw [z_at_eq] at h1
    exact List.mem_flatten.mpr ⟨l, List.mem_of_getElem? hl, List.mem_of_getElem? h1⟩
-- where a run is cut
def z_eqE (x y : zAE) : Bool := match x, y with
  | .inl (a, f), .inl (b, g) => and (Nat.beq a b) (decide (f = g))
  | .inr (a, n, f), .inr (b, k, g) => and (and (Nat.beq a b) (Nat.beq n k)) (decide (f = g))
  | _, _ => false
theorem z_eqE_ok : ∀ {x y : zAE}, z_eqE x y = true → x = y
  | .inl (a, f), .inl (b, g), h => by
    have h : and (Nat.beq a b) (decide (f = g)) = true := h
    obtain ⟨h1, h2⟩ := z_and h
    rw [Nat.eq_of_beq_eq_true h1, of_decide_eq_true h2]
  | .inr (a, n, f), .inr (b, k, g), h => by
    have h : and (and (Nat.beq a b) (Nat.beq n k)) (decide (f = g)) = true := h
    obtain ⟨h1, h2⟩ := z_and h
    obtain ⟨h3, h4⟩ := z_and h1
    rw [Nat.eq_of_beq_eq_true h3, Nat.eq_of_beq_eq_true h4, of_decide_eq_true h2]
  | .inl _, .inr _, h => absurd (show false = true from h) Bool.false_ne_true
  | .inr _, .inl _, h => absurd (show false = true from h) Bool.false_ne_true
def z_emp (l : List zAE) : Bool := match l with
  | [] => true
  | _ :: _ => false
noncomputable def z_hd (l : List zAE) (f : zAE → List zAE → Bool) : Bool := match l with
  | [] => false
  | y :: ys => f y ys
noncomputable def z_eqW (l : List zAE) : List zAE → Bool :=
  List.rec (motive := fun _ => List zAE → Bool) z_emp (fun x _ ih l' => z_hd l' fun y ys => and (z_eqE x y) (ih ys)) l
theorem z_eqW_ok : ∀ {l l' : List zAE}, z_eqW l l' = true → l = l'
  | [], [], _ => rfl
  | [], _ :: _, h => absurd (show false = true from h) Bool.false_ne_true
  | _ :: _, [], h => absurd (show false = true from h) Bool.false_ne_true
  | x :: xs, y :: ys, h => by
    have h : and (z_eqE x y) (z_eqW xs ys) = true := h
    obtain ⟨h1, h2⟩ := z_and h
    rw [z_eqE_ok h1, z_eqW_ok h2]
noncomputable def z_eqS (pc0 : Nat) (lo0 : List (Nat × zAV)) (st0 : List zAV) (ce0 sl0 : Nat) (env0 : zEnv) (w0 : List zAE) : zKS := fun pc lo st ce sl env w => and (Nat.beq pc pc0) (and (decide (lo = lo0)) (and (decide (st = st0)) (and (and (Nat.beq ce ce0) (Nat.beq sl sl0)) (and (decide (env = env0)) (z_eqW w w0)))))
theorem z_eqS_ok {pc0 : Nat} {lo0 : List (Nat × zAV)} {st0 : List zAV} {ce0 sl0 : Nat} {env0 : zEnv} {w0 : List zAE} {pc : Nat} {lo : List (Nat × zAV)} {st : List zAV} {ce sl : Nat} {env : zEnv} {w : List zAE} (h : z_eqS pc0 lo0 st0 ce0 sl0 env0 w0 pc lo st ce sl env w = true) : pc = pc0 ∧ lo = lo0 ∧ st = st0 ∧ ce = ce0 ∧ sl = sl0 ∧ env = env0 ∧ w = w0 := by
  obtain ⟨h1, h2⟩ := z_and h
  obtain ⟨h3, h4⟩ := z_and h2
  obtain ⟨h5, h6⟩ := z_and h4
  obtain ⟨h7, h8⟩ := z_and h6
  obtain ⟨h9, h10⟩ := z_and h7
  obtain ⟨h11, h12⟩ := z_and h8
  exact ⟨Nat.eq_of_beq_eq_true h1, of_decide_eq_true h3, of_decide_eq_true h5, Nat.eq_of_beq_eq_true h9, Nat.eq_of_beq_eq_true h10, of_decide_eq_true h11, z_eqW_ok h12⟩
def z_nos : zKS := fun _ _ _ _ _ _ _ => false
/-- the law's end: it answers 1 -/
def z_k0 : zK := fun _ r _ => match r with
  | some (.inl u) => Nat.beq u 1
  | _ => false
end
section
theorem zn0 : ∀ a, a < 14 → ∀ b, b < 14 → a ≠ b → (zT0 a).2.1 ≠ (zT0 b).2.1 := by decide +kernel
theorem zc0 : z_okC ztb ("RailwayHouse$Channel", zT0, 14) zy0 zv0 [2044, 2046, 2048, 2050, 2052, 2054, 2056, 2058, 2060, 2062, 2064, 2066, 2068, 2070] 2021 1007 = true := by decide +kernel
theorem zn1 : ∀ a, a < 10 → ∀ b, b < 10 → a ≠ b → (zT1 a).2.1 ≠ (zT1 b).2.1 := by decide +kernel
theorem zc1 : z_okC ztb ("RailwayHouse$Journeys", zT1, 10) zy1 zv1 [3018, 3020, 3022, 3024, 3026, 3028, 3030, 3032, 3034, 3036] 2239 1010 = true := by decide +kernel
theorem zn2 : ∀ a, a < 9 → ∀ b, b < 9 → a ≠ b → (zT2 a).2.1 ≠ (zT2 b).2.1 := by decide +kernel
theorem zc2 : z_okC ztb ("RailwayHouse$Layout", zT2, 9) zy2 zv2 [1072, 1074, 1076, 1078, 1080, 1082, 1084, 1086, 1088] 1037 1003 = true := by decide +kernel
theorem zn3 : ∀ a, a < 13 → ∀ b, b < 13 → a ≠ b → (zT3 a).2.1 ≠ (zT3 b).2.1 := by decide +kernel
theorem zc3 : z_okC ztb ("RailwayHouse$Line", zT3, 13) zy3 zv3 [3061, 3063, 3065, 3067, 3069, 3071, 3073, 3075, 3077, 3079, 3081, 3083, 3085] 3041 1011 = true := by decide +kernel
theorem zn4 : ∀ a, a < 9 → ∀ b, b < 9 → a ≠ b → (zT4 a).2.1 ≠ (zT4 b).2.1 := by decide +kernel
theorem zc4 : z_okC ztb ("RailwayHouse$Reader", zT4, 9) zy4 zv4 [1106, 1108, 1110, 1112, 1114, 1116, 1118, 1120, 1122] 1031 1002 = true := by decide +kernel
theorem zn5 : ∀ a, a < 10 → ∀ b, b < 10 → a ≠ b → (zT5 a).2.1 ≠ (zT5 b).2.1 := by decide +kernel
theorem zc5 : z_okC ztb ("RailwayHouse$Reports", zT5, 10) zy5 zv5 [1232, 1234, 1236, 1238, 2000, 2002, 2004, 2006, 2008, 2010] 1212 1005 = true := by decide +kernel
theorem zn6 : ∀ a, a < 16 → ∀ b, b < 16 → a ≠ b → (zT6 a).2.1 ≠ (zT6 b).2.1 := by decide +kernel
theorem zc6 : z_okC ztb ("RailwayHouse$Timetable", zT6, 16) zy6 zv6 [2205, 2207, 2209, 2211, 2213, 2215, 2217, 2219, 2221, 2223, 2225, 2227, 2229, 2231, 2233, 2235] 2165 1009 = true := by decide +kernel
theorem zn7 : ∀ a, a < 13 → ∀ b, b < 13 → a ≠ b → (zT7 a).2.1 ≠ (zT7 b).2.1 := by decide +kernel
theorem zc7 : z_okC ztb ("RailwayHouse$Train", zT7, 13) zy7 zv7 [6050, 6052, 6054, 6056, 6058, 6060, 6062, 6064, 6066, 6068, 6070, 6072, 6074] 6017 1020 = true := by decide +kernel
theorem zn8 : ∀ a, a < 10 → ∀ b, b < 10 → a ≠ b → (zT8 a).2.1 ≠ (zT8 b).2.1 := by decide +kernel
theorem zc8 : z_okC ztb ("RailwayHouse$Vote", zT8, 10) zy8 zv8 [2090, 2092, 2094, 2096, 2098, 2100, 2102, 2104, 2106, 2108] 2014 1006 = true := by decide +kernel
theorem zn9 : ∀ a, a < 20 → ∀ b, b < 20 → a ≠ b → (zT9 a).2.1 ≠ (zT9 b).2.1 := by decide +kernel
theorem zc9 : z_okC ztb ("RailwayHouse$Ways", zT9, 20) zy9 zv9 [1170, 1172, 1174, 1176, 1178, 1180, 1182, 1184, 1186, 1188, 1190, 1192, 1194, 1196, 1198, 1200, 1202, 1204, 1206, 1208] 1128 1004 = true := by decide +kernel
theorem zn10 : ∀ a, a < 13 → ∀ b, b < 13 → a ≠ b → (zT10 a).2.1 ≠ (zT10 b).2.1 := by decide +kernel
theorem zc10 : z_okC ztb ("RailwayHouse$Yard", zT10, 13) zy10 zv10 [2137, 2139, 2141, 2143, 2145, 2147, 2149, 2151, 2153, 2155, 2157, 2159, 2161] 2112 1008 = true := by decide +kernel
theorem zn11 : ∀ a, a < 12 → ∀ b, b < 12 → a ≠ b → (zT11 a).2.1 ≠ (zT11 b).2.1 := by decide +kernel
theorem zc11 : z_okC ztb ("RailwayHouse", zT11, 12) zy11 zv11 [3144, 3146, 3148, 3150, 3152, 3154, 3156, 3158, 3160, 3162, 3164, 3166] 1023 1001 = true := by decide +kernel
theorem zn12 : ∀ a, a < 146 → ∀ b, b < 146 → a ≠ b → (zT12 a).2.1 ≠ (zT12 b).2.1 := by decide +kernel
theorem zc12 : z_okC ztb ("RailwayHouseModel", zT12, 146) zy12 zv12 [9016, 9018, 9020, 9022, 9024, 9026, 9028, 9030, 9032, 9034, 9036, 9038, 9040, 9042, 9044, 9046, 9048, 9050, 9052, 9054, 9056, 9058, 9060, 9062, 9064, 9066, 9068, 9070, 9072, 9074, 9076, 9078, 9080, 9082, 9084, 9086, 9088, 9090, 9092, 9094, 9096, 9098, 9100, 9102, 9104, 9106, 9108, 9110, 9112, 9114, 9116, 9118, 9120, 9122, 9124, 9126, 9128, 9130, 9132, 9134, 9136, 9138, 9140, 9142, 9144, 9146, 9148, 9150, 9152, 9154, 9156, 9158, 9160, 9162, 9164, 9166, 9168, 9170, 9172, 9174, 9176, 9178, 9180, 9182, 9184, 9186, 9188, 9190, 9192, 9194, 9196, 9198, 9200, 9202, 9204, 9206, 9208, 9210, 9212, 9214, 9216, 9218, 9220, 9222, 9224, 9226, 9228, 9230, 9232, 9234, 9236, 9238, 10000, 10002, 10004, 10006, 10008, 10010, 10012, 10014, 10016, 10018, 10020, 10022, 10024, 10026, 10028, 10030, 10032, 10034, 10036, 10038, 10040, 10042, 10044, 10046, 10048, 10050, 10052, 10054, 10056, 10058, 10060, 10062, 10064, 10066] 8070 1012 = true := by decide +kernel
theorem zCF : z_CF ztb zcls zzty zzdv := by
  intro ci c hc
  match ci, hc with
  | 0, hc => cases hc; exact z_okC_ok zc0 zn0 (ci := 0) rfl rfl
  | 1, hc => cases hc; exact z_okC_ok zc1 zn1 (ci := 1) rfl rfl
  | 2, hc => cases hc; exact z_okC_ok zc2 zn2 (ci := 2) rfl rfl
  | 3, hc => cases hc; exact z_okC_ok zc3 zn3 (ci := 3) rfl rfl
  | 4, hc => cases hc; exact z_okC_ok zc4 zn4 (ci := 4) rfl rfl
  | 5, hc => cases hc; exact z_okC_ok zc5 zn5 (ci := 5) rfl rfl
  | 6, hc => cases hc; exact z_okC_ok zc6 zn6 (ci := 6) rfl rfl
  | 7, hc => cases hc; exact z_okC_ok zc7 zn7 (ci := 7) rfl rfl
  | 8, hc => cases hc; exact z_okC_ok zc8 zn8 (ci := 8) rfl rfl
  | 9, hc => cases hc; exact z_okC_ok zc9 zn9 (ci := 9) rfl rfl
  | 10, hc => cases hc; exact z_okC_ok zc10 zn10 (ci := 10) rfl rfl
  | 11, hc => cases hc; exact z_okC_ok zc11 zn11 (ci := 11) rfl rfl
  | 12, hc => cases hc; exact z_okC_ok zc12 zn12 (ci := 12) rfl rfl
  | ci + 13, hc => simp [zcls] at hc
theorem zA_int : Jvm.Cond.arrayClass .int ∈ z_G ztb := z_w_ok (n := 1092) (by decide +kernel)
theorem zA_byte : Jvm.Cond.arrayClass .byte ∈ z_G ztb := z_w_ok (n := 1091) (by decide +kernel)
theorem zA_boolean : Jvm.Cond.arrayClass .boolean ∈ z_G ztb := z_w_ok (n := 2073) (by decide +kernel)
theorem zA_long : Jvm.Cond.arrayClass .long ∈ z_G ztb := z_w_ok (n := 3039) (by decide +kernel)
theorem zO_1 : Jvm.Cond.instanceMethod objectInit ∈ z_G ztb := z_w_ok (n := 1028) (by decide +kernel)
theorem zO_2 : Jvm.Cond.code objectInit ⟨#[0xb1]⟩ 1 none ∈ z_G ztb := z_w_ok (n := 1029) (by decide +kernel)
end
section
theorem z_seg {α : Type} {f : α → Bool} {l : List α} {a k : Nat} (h1 : ((l.drop a).take k).all f = true) (h2 : (l.drop (a + k)).all f = true) : (l.drop a).all f = true := by
  rw [← List.take_append_drop k (l.drop a), List.all_append, h1, List.drop_drop, h2]
  rfl
theorem z_seg_end {α : Type} {f : α → Bool} {l : List α} {k : Nat} (h : l.length ≤ k) : (l.drop k).all f = true := by
  rw [List.drop_eq_nil_of_le h]
  rfl
theorem z_seg0 {α : Type} {f : α → Bool} {l : List α} (h : (l.drop 0).all f = true) : l.all f = true := by
  rw [List.drop_zero] at h
  exact h
theorem zq0 : (z_cd zm0).all (z_okE ztb znw zcls zms zm0) = true := by decide +kernel
theorem zp0 : z_okP ztb znw zcls zms zm0 := z_okP_of 3095 3093 3094 1005 (z_codeIn (ch := 3) (i := 95) (l := tables_1_3) rfl rfl) (by decide +kernel) zq0
theorem zq1 : (z_cd zm1).all (z_okE ztb znw zcls zms zm1) = true := by decide +kernel
theorem zp1 : z_okP ztb znw zcls zms zm1 := z_okP_of 3099 3097 3098 1005 (z_codeIn (ch := 3) (i := 99) (l := tables_1_3) rfl rfl) (by decide +kernel) zq1
theorem zq2 : (z_cd zm2).all (z_okE ztb znw zcls zms zm2) = true := by decide +kernel
theorem zp2 : z_okP ztb znw zcls zms zm2 := z_okP_of 3115 3114 2 1007 (z_codeIn (ch := 3) (i := 115) (l := tables_1_3) rfl rfl) (by decide +kernel) zq2
theorem zq3 : (z_cd zm3).all (z_okE ztb znw zcls zms zm3) = true := by decide +kernel
theorem zp3 : z_okP ztb znw zcls zms zm3 := z_okP_of 3123 3122 3 1007 (z_codeIn (ch := 3) (i := 123) (l := tables_1_3) rfl rfl) (by decide +kernel) zq3
theorem zq4 : (z_cd zm4).all (z_okE ztb znw zcls zms zm4) = true := by decide +kernel
theorem zp4 : z_okP ztb znw zcls zms zm4 := z_okP_of 3119 3117 3118 1007 (z_codeIn (ch := 3) (i := 119) (l := tables_1_3) rfl rfl) (by decide +kernel) zq4
theorem zq5 : (z_cd zm5).all (z_okE ztb znw zcls zms zm5) = true := by decide +kernel
theorem zp5 : z_okP ztb znw zcls zms zm5 := z_okP_of 3111 3109 3110 1007 (z_codeIn (ch := 3) (i := 111) (l := tables_1_3) rfl rfl) (by decide +kernel) zq5
theorem zq6 : (z_cd zm6).all (z_okE ztb znw zcls zms zm6) = true := by decide +kernel
theorem zp6 : z_okP ztb znw zcls zms zm6 := z_okP_of 3107 3106 1 1006 (z_codeIn (ch := 3) (i := 107) (l := tables_1_3) rfl rfl) (by decide +kernel) zq6
theorem zq7 : (z_cd zm7).all (z_okE ztb znw zcls zms zm7) = true := by decide +kernel
theorem zp7 : z_okP ztb znw zcls zms zm7 := z_okP_of 3103 3101 3102 1006 (z_codeIn (ch := 3) (i := 103) (l := tables_1_3) rfl rfl) (by decide +kernel) zq7
theorem zq8 : (z_cd zm8).all (z_okE ztb znw zcls zms zm8) = true := by decide +kernel
theorem zp8 : z_okP ztb znw zcls zms zm8 := z_okP_of 3131 3129 3130 1008 (z_codeIn (ch := 3) (i := 131) (l := tables_1_3) rfl rfl) (by decide +kernel) zq8
theorem zq9 : (z_cd zm9).all (z_okE ztb znw zcls zms zm9) = true := by decide +kernel
theorem zp9 : z_okP ztb znw zcls zms zm9 := z_okP_of 3091 3090 0 1001 (z_codeIn (ch := 3) (i := 91) (l := tables_1_3) rfl rfl) (by decide +kernel) zq9
theorem zq10_0 : (((z_cd zm10).drop 0).take 40).all (z_okE ztb znw zcls zms zm10) = true := by decide +kernel
theorem zq10_1 : (((z_cd zm10).drop 40).take 40).all (z_okE ztb znw zcls zms zm10) = true := by decide +kernel
theorem zq10_e2 : ((z_cd zm10).drop 80).all (z_okE ztb znw zcls zms zm10) = true := z_seg_end (by decide +kernel)
theorem zq10_e1 : ((z_cd zm10).drop 40).all (z_okE ztb znw zcls zms zm10) = true := z_seg (a := 40) (k := 40) zq10_1 zq10_e2
theorem zq10_e0 : ((z_cd zm10).drop 0).all (z_okE ztb znw zcls zms zm10) = true := z_seg (a := 0) (k := 40) zq10_0 zq10_e1
theorem zq10 : (z_cd zm10).all (z_okE ztb znw zcls zms zm10) = true := z_seg0 zq10_e0
theorem zp10 : z_okP ztb znw zcls zms zm10 := z_okP_of 3002 3001 0 1010 (z_codeIn (ch := 3) (i := 2) (l := tables_1_3) rfl rfl) (by decide +kernel) zq10
theorem zq11 : (z_cd zm11).all (z_okE ztb znw zcls zms zm11) = true := by decide +kernel
theorem zp11 : z_okP ztb znw zcls zms zm11 := z_okP_of 1040 1039 0 1003 (z_codeIn (ch := 1) (i := 40) (l := tables_1_1) rfl rfl) (by decide +kernel) zq11
theorem zq12_0 : (((z_cd zm12).drop 0).take 40).all (z_okE ztb znw zcls zms zm12) = true := by decide +kernel
theorem zq12_1 : (((z_cd zm12).drop 40).take 40).all (z_okE ztb znw zcls zms zm12) = true := by decide +kernel
theorem zq12_e2 : ((z_cd zm12).drop 80).all (z_okE ztb znw zcls zms zm12) = true := z_seg_end (by decide +kernel)
theorem zq12_e1 : ((z_cd zm12).drop 40).all (z_okE ztb znw zcls zms zm12) = true := z_seg (a := 40) (k := 40) zq12_1 zq12_e2
theorem zq12_e0 : ((z_cd zm12).drop 0).all (z_okE ztb znw zcls zms zm12) = true := z_seg (a := 0) (k := 40) zq12_0 zq12_e1
theorem zq12 : (z_cd zm12).all (z_okE ztb znw zcls zms zm12) = true := z_seg0 zq12_e0
theorem zp12 : z_okP ztb znw zcls zms zm12 := z_okP_of 3044 3043 0 1011 (z_codeIn (ch := 3) (i := 44) (l := tables_1_3) rfl rfl) (by decide +kernel) zq12
theorem zq13 : (z_cd zm13).all (z_okE ztb znw zcls zms zm13) = true := by decide +kernel
theorem zp13 : z_okP ztb znw zcls zms zm13 := z_okP_of 1034 1033 0 1002 (z_codeIn (ch := 1) (i := 34) (l := tables_1_1) rfl rfl) (by decide +kernel) zq13
theorem zq14 : (z_cd zm14).all (z_okE ztb znw zcls zms zm14) = true := by decide +kernel
theorem zp14 : z_okP ztb znw zcls zms zm14 := z_okP_of 1215 1214 0 1005 (z_codeIn (ch := 1) (i := 215) (l := tables_1_1) rfl rfl) (by decide +kernel) zq14
theorem zq15 : (z_cd zm15).all (z_okE ztb znw zcls zms zm15) = true := by decide +kernel
theorem zp15 : z_okP ztb znw zcls zms zm15 := z_okP_of 2173 2171 2172 1009 (z_codeIn (ch := 2) (i := 173) (l := tables_1_2) rfl rfl) (by decide +kernel) zq15
theorem zq16_0 : (((z_cd zm16).drop 0).take 40).all (z_okE ztb znw zcls zms zm16) = true := by decide +kernel
theorem zq16_1 : (((z_cd zm16).drop 40).take 40).all (z_okE ztb znw zcls zms zm16) = true := by decide +kernel
theorem zq16_e2 : ((z_cd zm16).drop 80).all (z_okE ztb znw zcls zms zm16) = true := z_seg_end (by decide +kernel)
theorem zq16_e1 : ((z_cd zm16).drop 40).all (z_okE ztb znw zcls zms zm16) = true := z_seg (a := 40) (k := 40) zq16_1 zq16_e2
theorem zq16_e0 : ((z_cd zm16).drop 0).all (z_okE ztb znw zcls zms zm16) = true := z_seg (a := 0) (k := 40) zq16_0 zq16_e1
theorem zq16 : (z_cd zm16).all (z_okE ztb znw zcls zms zm16) = true := z_seg0 zq16_e0
theorem zp16 : z_okP ztb znw zcls zms zm16 := z_okP_of 2168 2167 0 1009 (z_codeIn (ch := 2) (i := 168) (l := tables_1_2) rfl rfl) (by decide +kernel) zq16
end
section
theorem zq17_0 : (((z_cd zm17).drop 0).take 40).all (z_okE ztb znw zcls zms zm17) = true := by decide +kernel
theorem zq17_1 : (((z_cd zm17).drop 40).take 40).all (z_okE ztb znw zcls zms zm17) = true := by decide +kernel
theorem zq17_e2 : ((z_cd zm17).drop 80).all (z_okE ztb znw zcls zms zm17) = true := z_seg_end (by decide +kernel)
theorem zq17_e1 : ((z_cd zm17).drop 40).all (z_okE ztb znw zcls zms zm17) = true := z_seg (a := 40) (k := 40) zq17_1 zq17_e2
theorem zq17_e0 : ((z_cd zm17).drop 0).all (z_okE ztb znw zcls zms zm17) = true := z_seg (a := 0) (k := 40) zq17_0 zq17_e1
theorem zq17 : (z_cd zm17).all (z_okE ztb znw zcls zms zm17) = true := z_seg0 zq17_e0
theorem zp17 : z_okP ztb znw zcls zms zm17 := z_okP_of 2024 2023 0 1007 (z_codeIn (ch := 2) (i := 24) (l := tables_1_2) rfl rfl) (by decide +kernel) zq17
theorem zq18_0 : (((z_cd zm18).drop 0).take 40).all (z_okE ztb znw zcls zms zm18) = true := by decide +kernel
theorem zq18_1 : (((z_cd zm18).drop 40).take 40).all (z_okE ztb znw zcls zms zm18) = true := by decide +kernel
theorem zq18_e2 : ((z_cd zm18).drop 80).all (z_okE ztb znw zcls zms zm18) = true := z_seg_end (by decide +kernel)
theorem zq18_e1 : ((z_cd zm18).drop 40).all (z_okE ztb znw zcls zms zm18) = true := z_seg (a := 40) (k := 40) zq18_1 zq18_e2
theorem zq18_e0 : ((z_cd zm18).drop 0).all (z_okE ztb znw zcls zms zm18) = true := z_seg (a := 0) (k := 40) zq18_0 zq18_e1
theorem zq18 : (z_cd zm18).all (z_okE ztb znw zcls zms zm18) = true := z_seg0 zq18_e0
theorem zp18 : z_okP ztb znw zcls zms zm18 := z_okP_of 2017 2016 0 1006 (z_codeIn (ch := 2) (i := 17) (l := tables_1_2) rfl rfl) (by decide +kernel) zq18
theorem zq19_0 : (((z_cd zm19).drop 0).take 40).all (z_okE ztb znw zcls zms zm19) = true := by decide +kernel
theorem zq19_1 : (((z_cd zm19).drop 40).take 40).all (z_okE ztb znw zcls zms zm19) = true := by decide +kernel
theorem zq19_e2 : ((z_cd zm19).drop 80).all (z_okE ztb znw zcls zms zm19) = true := z_seg_end (by decide +kernel)
theorem zq19_e1 : ((z_cd zm19).drop 40).all (z_okE ztb znw zcls zms zm19) = true := z_seg (a := 40) (k := 40) zq19_1 zq19_e2
theorem zq19_e0 : ((z_cd zm19).drop 0).all (z_okE ztb znw zcls zms zm19) = true := z_seg (a := 0) (k := 40) zq19_0 zq19_e1
theorem zq19 : (z_cd zm19).all (z_okE ztb znw zcls zms zm19) = true := z_seg0 zq19_e0
theorem zp19 : z_okP ztb znw zcls zms zm19 := z_okP_of 1131 1130 0 1004 (z_codeIn (ch := 1) (i := 131) (l := tables_1_1) rfl rfl) (by decide +kernel) zq19
theorem zq20_0 : (((z_cd zm20).drop 0).take 40).all (z_okE ztb znw zcls zms zm20) = true := by decide +kernel
theorem zq20_1 : (((z_cd zm20).drop 40).take 40).all (z_okE ztb znw zcls zms zm20) = true := by decide +kernel
theorem zq20_e2 : ((z_cd zm20).drop 80).all (z_okE ztb znw zcls zms zm20) = true := z_seg_end (by decide +kernel)
theorem zq20_e1 : ((z_cd zm20).drop 40).all (z_okE ztb znw zcls zms zm20) = true := z_seg (a := 40) (k := 40) zq20_1 zq20_e2
theorem zq20_e0 : ((z_cd zm20).drop 0).all (z_okE ztb znw zcls zms zm20) = true := z_seg (a := 0) (k := 40) zq20_0 zq20_e1
theorem zq20 : (z_cd zm20).all (z_okE ztb znw zcls zms zm20) = true := z_seg0 zq20_e0
theorem zp20 : z_okP ztb znw zcls zms zm20 := z_okP_of 2115 2114 0 1008 (z_codeIn (ch := 2) (i := 115) (l := tables_1_2) rfl rfl) (by decide +kernel) zq20
theorem zq21_0 : (((z_cd zm21).drop 0).take 40).all (z_okE ztb znw zcls zms zm21) = true := by decide +kernel
theorem zq21_1 : (((z_cd zm21).drop 40).take 40).all (z_okE ztb znw zcls zms zm21) = true := by decide +kernel
theorem zq21_e2 : ((z_cd zm21).drop 80).all (z_okE ztb znw zcls zms zm21) = true := z_seg_end (by decide +kernel)
theorem zq21_e1 : ((z_cd zm21).drop 40).all (z_okE ztb znw zcls zms zm21) = true := z_seg (a := 40) (k := 40) zq21_1 zq21_e2
theorem zq21_e0 : ((z_cd zm21).drop 0).all (z_okE ztb znw zcls zms zm21) = true := z_seg (a := 0) (k := 40) zq21_0 zq21_e1
theorem zq21 : (z_cd zm21).all (z_okE ztb znw zcls zms zm21) = true := z_seg0 zq21_e0
theorem zp21 : z_okP ztb znw zcls zms zm21 := z_okP_of 1026 1025 0 1001 (z_codeIn (ch := 1) (i := 26) (l := tables_1_1) rfl rfl) (by decide +kernel) zq21
theorem zq22 : (z_cd zm22).all (z_okE ztb znw zcls zms zm22) = true := by decide +kernel
theorem zp22 : z_okP ztb znw zcls zms zm22 := z_okP_of 5148 5146 5147 1006 (z_codeIn (ch := 5) (i := 148) (l := tables_1_5) rfl rfl) (by decide +kernel) zq22
theorem zq23 : (z_cd zm23).all (z_okE ztb znw zcls zms zm23) = true := by decide +kernel
theorem zp23 : z_okP ztb znw zcls zms zm23 := z_okP_of 7079 7078 68 1006 (z_codeIn (ch := 7) (i := 79) (l := tables_1_7) rfl rfl) (by decide +kernel) zq23
theorem zq24 : (z_cd zm24).all (z_okE ztb znw zcls zms zm24) = true := by decide +kernel
theorem zp24 : z_okP ztb znw zcls zms zm24 := z_okP_of 7070 7069 67 1006 (z_codeIn (ch := 7) (i := 70) (l := tables_1_7) rfl rfl) (by decide +kernel) zq24
theorem zq25 : (z_cd zm25).all (z_okE ztb znw zcls zms zm25) = true := by decide +kernel
theorem zp25 : z_okP ztb znw zcls zms zm25 := z_okP_of 7066 7064 7065 1006 (z_codeIn (ch := 7) (i := 66) (l := tables_1_7) rfl rfl) (by decide +kernel) zq25
theorem zq26 : (z_cd zm26).all (z_okE ztb znw zcls zms zm26) = true := by decide +kernel
theorem zp26 : z_okP ztb znw zcls zms zm26 := z_okP_of 7087 7085 7086 1008 (z_codeIn (ch := 7) (i := 87) (l := tables_1_7) rfl rfl) (by decide +kernel) zq26
theorem zq27 : (z_cd zm27).all (z_okE ztb znw zcls zms zm27) = true := by decide +kernel
theorem zp27 : z_okP ztb znw zcls zms zm27 := z_okP_of 7062 7060 7061 1001 (z_codeIn (ch := 7) (i := 62) (l := tables_1_7) rfl rfl) (by decide +kernel) zq27
theorem zq28 : (z_cd zm28).all (z_okE ztb znw zcls zms zm28) = true := by decide +kernel
theorem zp28 : z_okP ztb znw zcls zms zm28 := z_okP_of 4070 4068 4069 1003 (z_codeIn (ch := 4) (i := 70) (l := tables_1_4) rfl rfl) (by decide +kernel) zq28
theorem zq29 : (z_cd zm29).all (z_okE ztb znw zcls zms zm29) = true := by decide +kernel
theorem zp29 : z_okP ztb znw zcls zms zm29 := z_okP_of 5225 5223 5224 1001 (z_codeIn (ch := 5) (i := 225) (l := tables_1_5) rfl rfl) (by decide +kernel) zq29
theorem zq30 : (z_cd zm30).all (z_okE ztb znw zcls zms zm30) = true := by decide +kernel
theorem zp30 : z_okP ztb znw zcls zms zm30 := z_okP_of 5009 5007 5008 1004 (z_codeIn (ch := 5) (i := 9) (l := tables_1_5) rfl rfl) (by decide +kernel) zq30
theorem zq31 : (z_cd zm31).all (z_okE ztb znw zcls zms zm31) = true := by decide +kernel
theorem zp31 : z_okP ztb znw zcls zms zm31 := z_okP_of 5120 5118 5119 1001 (z_codeIn (ch := 5) (i := 120) (l := tables_1_5) rfl rfl) (by decide +kernel) zq31
theorem zq32 : (z_cd zm32).all (z_okE ztb znw zcls zms zm32) = true := by decide +kernel
theorem zp32 : z_okP ztb znw zcls zms zm32 := z_okP_of 5136 5135 0 1001 (z_codeIn (ch := 5) (i := 136) (l := tables_1_5) rfl rfl) (by decide +kernel) zq32
theorem zq33 : (z_cd zm33).all (z_okE ztb znw zcls zms zm33) = true := by decide +kernel
theorem zp33 : z_okP ztb znw zcls zms zm33 := z_okP_of 5181 5179 5180 1001 (z_codeIn (ch := 5) (i := 181) (l := tables_1_5) rfl rfl) (by decide +kernel) zq33
theorem zq34 : (z_cd zm34).all (z_okE ztb znw zcls zms zm34) = true := by decide +kernel
theorem zp34 : z_okP ztb znw zcls zms zm34 := z_okP_of 3197 3195 3196 1003 (z_codeIn (ch := 3) (i := 197) (l := tables_1_3) rfl rfl) (by decide +kernel) zq34
theorem zq35 : (z_cd zm35).all (z_okE ztb znw zcls zms zm35) = true := by decide +kernel
theorem zp35 : z_okP ztb znw zcls zms zm35 := z_okP_of 8066 8064 8065 1002 (z_codeIn (ch := 8) (i := 66) (l := tables_1_8) rfl rfl) (by decide +kernel) zq35
theorem zq36 : (z_cd zm36).all (z_okE ztb znw zcls zms zm36) = true := by decide +kernel
theorem zp36 : z_okP ztb znw zcls zms zm36 := z_okP_of 4160 4158 4159 1004 (z_codeIn (ch := 4) (i := 160) (l := tables_1_4) rfl rfl) (by decide +kernel) zq36
theorem zq37 : (z_cd zm37).all (z_okE ztb znw zcls zms zm37) = true := by decide +kernel
theorem zp37 : z_okP ztb znw zcls zms zm37 := z_okP_of 8062 8060 8061 1001 (z_codeIn (ch := 8) (i := 62) (l := tables_1_8) rfl rfl) (by decide +kernel) zq37
end
section
theorem zq38 : (z_cd zm38).all (z_okE ztb znw zcls zms zm38) = true := by decide +kernel
theorem zp38 : z_okP ztb znw zcls zms zm38 := z_okP_of 8023 8021 8022 1001 (z_codeIn (ch := 8) (i := 23) (l := tables_1_8) rfl rfl) (by decide +kernel) zq38
theorem zq39 : (z_cd zm39).all (z_okE ztb znw zcls zms zm39) = true := by decide +kernel
theorem zp39 : z_okP ztb znw zcls zms zm39 := z_okP_of 5021 5019 5020 1001 (z_codeIn (ch := 5) (i := 21) (l := tables_1_5) rfl rfl) (by decide +kernel) zq39
theorem zq40_0 : (((z_cd zm40).drop 0).take 40).all (z_okE ztb znw zcls zms zm40) = true := by decide +kernel
theorem zq40_1 : (((z_cd zm40).drop 40).take 40).all (z_okE ztb znw zcls zms zm40) = true := by decide +kernel
theorem zq40_e2 : ((z_cd zm40).drop 80).all (z_okE ztb znw zcls zms zm40) = true := z_seg_end (by decide +kernel)
theorem zq40_e1 : ((z_cd zm40).drop 40).all (z_okE ztb znw zcls zms zm40) = true := z_seg (a := 40) (k := 40) zq40_1 zq40_e2
theorem zq40_e0 : ((z_cd zm40).drop 0).all (z_okE ztb znw zcls zms zm40) = true := z_seg (a := 0) (k := 40) zq40_0 zq40_e1
theorem zq40 : (z_cd zm40).all (z_okE ztb znw zcls zms zm40) = true := z_seg0 zq40_e0
theorem zp40 : z_okP ztb znw zcls zms zm40 := z_okP_of 8058 8056 8057 1001 (z_codeIn (ch := 8) (i := 58) (l := tables_1_8) rfl rfl) (by decide +kernel) zq40
theorem zq41 : (z_cd zm41).all (z_okE ztb znw zcls zms zm41) = true := by decide +kernel
theorem zp41 : z_okP ztb znw zcls zms zm41 := z_okP_of 7104 7102 7103 1006 (z_codeIn (ch := 7) (i := 104) (l := tables_1_7) rfl rfl) (by decide +kernel) zq41
theorem zq42 : (z_cd zm42).all (z_okE ztb znw zcls zms zm42) = true := by decide +kernel
theorem zp42 : z_okP ztb znw zcls zms zm42 := z_okP_of 7100 7098 7099 1001 (z_codeIn (ch := 7) (i := 100) (l := tables_1_7) rfl rfl) (by decide +kernel) zq42
theorem zq43 : (z_cd zm43).all (z_okE ztb znw zcls zms zm43) = true := by decide +kernel
theorem zp43 : z_okP ztb znw zcls zms zm43 := z_okP_of 8040 8039 78 1011 (z_codeIn (ch := 8) (i := 40) (l := tables_1_8) rfl rfl) (by decide +kernel) zq43
theorem zq44 : (z_cd zm44).all (z_okE ztb znw zcls zms zm44) = true := by decide +kernel
theorem zp44 : z_okP ztb znw zcls zms zm44 := z_okP_of 8036 8035 77 1011 (z_codeIn (ch := 8) (i := 36) (l := tables_1_8) rfl rfl) (by decide +kernel) zq44
theorem zq45 : (z_cd zm45).all (z_okE ztb znw zcls zms zm45) = true := by decide +kernel
theorem zp45 : z_okP ztb znw zcls zms zm45 := z_okP_of 8031 8029 8030 1011 (z_codeIn (ch := 8) (i := 31) (l := tables_1_8) rfl rfl) (by decide +kernel) zq45
theorem zq46 : (z_cd zm46).all (z_okE ztb znw zcls zms zm46) = true := by decide +kernel
theorem zp46 : z_okP ztb znw zcls zms zm46 := z_okP_of 8027 8025 8026 1001 (z_codeIn (ch := 8) (i := 27) (l := tables_1_8) rfl rfl) (by decide +kernel) zq46
theorem zq47 : (z_cd zm47).all (z_okE ztb znw zcls zms zm47) = true := by decide +kernel
theorem zp47 : z_okP ztb znw zcls zms zm47 := z_okP_of 3185 3183 3184 1001 (z_codeIn (ch := 3) (i := 185) (l := tables_1_3) rfl rfl) (by decide +kernel) zq47
theorem zq48 : (z_cd zm48).all (z_okE ztb znw zcls zms zm48) = true := by decide +kernel
theorem zp48 : z_okP ztb znw zcls zms zm48 := z_okP_of 4226 4224 4225 1003 (z_codeIn (ch := 4) (i := 226) (l := tables_1_4) rfl rfl) (by decide +kernel) zq48
theorem zq49 : (z_cd zm49).all (z_okE ztb znw zcls zms zm49) = true := by decide +kernel
theorem zp49 : z_okP ztb znw zcls zms zm49 := z_okP_of 5230 5228 5229 1001 (z_codeIn (ch := 5) (i := 230) (l := tables_1_5) rfl rfl) (by decide +kernel) zq49
theorem zq50 : (z_cd zm50).all (z_okE ztb znw zcls zms zm50) = true := by decide +kernel
theorem zp50 : z_okP ztb znw zcls zms zm50 := z_okP_of 5177 5175 5176 1001 (z_codeIn (ch := 5) (i := 177) (l := tables_1_5) rfl rfl) (by decide +kernel) zq50
theorem zq51 : (z_cd zm51).all (z_okE ztb znw zcls zms zm51) = true := by decide +kernel
theorem zp51 : z_okP ztb znw zcls zms zm51 := z_okP_of 3176 3174 3175 1002 (z_codeIn (ch := 3) (i := 176) (l := tables_1_3) rfl rfl) (by decide +kernel) zq51
theorem zq52 : (z_cd zm52).all (z_okE ztb znw zcls zms zm52) = true := by decide +kernel
theorem zp52 : z_okP ztb znw zcls zms zm52 := z_okP_of 3180 3178 3179 1002 (z_codeIn (ch := 3) (i := 180) (l := tables_1_3) rfl rfl) (by decide +kernel) zq52
theorem zq53 : (z_cd zm53).all (z_okE ztb znw zcls zms zm53) = true := by decide +kernel
theorem zp53 : z_okP ztb znw zcls zms zm53 := z_okP_of 3172 3170 3171 1001 (z_codeIn (ch := 3) (i := 172) (l := tables_1_3) rfl rfl) (by decide +kernel) zq53
theorem zq54 : (z_cd zm54).all (z_okE ztb znw zcls zms zm54) = true := by decide +kernel
theorem zp54 : z_okP ztb znw zcls zms zm54 := z_okP_of 5160 5159 40 1001 (z_codeIn (ch := 5) (i := 160) (l := tables_1_5) rfl rfl) (by decide +kernel) zq54
theorem zq55 : (z_cd zm55).all (z_okE ztb znw zcls zms zm55) = true := by decide +kernel
theorem zp55 : z_okP ztb znw zcls zms zm55 := z_okP_of 5156 5154 5155 1001 (z_codeIn (ch := 5) (i := 156) (l := tables_1_5) rfl rfl) (by decide +kernel) zq55
theorem zq56 : (z_cd zm56).all (z_okE ztb znw zcls zms zm56) = true := by decide +kernel
theorem zp56 : z_okP ztb znw zcls zms zm56 := z_okP_of 8002 8000 8001 1009 (z_codeIn (ch := 8) (i := 2) (l := tables_1_8) rfl rfl) (by decide +kernel) zq56
theorem zq57 : (z_cd zm57).all (z_okE ztb znw zcls zms zm57) = true := by decide +kernel
theorem zp57 : z_okP ztb znw zcls zms zm57 := z_okP_of 8006 8004 8005 1001 (z_codeIn (ch := 8) (i := 6) (l := tables_1_8) rfl rfl) (by decide +kernel) zq57
theorem zq58 : (z_cd zm58).all (z_okE ztb znw zcls zms zm58) = true := by decide +kernel
theorem zp58 : z_okP ztb znw zcls zms zm58 := z_okP_of 7141 7139 7140 1009 (z_codeIn (ch := 7) (i := 141) (l := tables_1_7) rfl rfl) (by decide +kernel) zq58
theorem zq59 : (z_cd zm59).all (z_okE ztb znw zcls zms zm59) = true := by decide +kernel
theorem zp59 : z_okP ztb znw zcls zms zm59 := z_okP_of 7223 7221 7222 1009 (z_codeIn (ch := 7) (i := 223) (l := tables_1_7) rfl rfl) (by decide +kernel) zq59
theorem zq60 : (z_cd zm60).all (z_okE ztb znw zcls zms zm60) = true := by decide +kernel
theorem zp60 : z_okP ztb znw zcls zms zm60 := z_okP_of 7219 7217 7218 1001 (z_codeIn (ch := 7) (i := 219) (l := tables_1_7) rfl rfl) (by decide +kernel) zq60
theorem zq61 : (z_cd zm61).all (z_okE ztb znw zcls zms zm61) = true := by decide +kernel
theorem zp61 : z_okP ztb znw zcls zms zm61 := z_okP_of 8011 8009 8010 1001 (z_codeIn (ch := 8) (i := 11) (l := tables_1_8) rfl rfl) (by decide +kernel) zq61
theorem zq62 : (z_cd zm62).all (z_okE ztb znw zcls zms zm62) = true := by decide +kernel
theorem zp62 : z_okP ztb znw zcls zms zm62 := z_okP_of 5144 5142 5143 1001 (z_codeIn (ch := 5) (i := 144) (l := tables_1_5) rfl rfl) (by decide +kernel) zq62
theorem zq63 : (z_cd zm63).all (z_okE ztb znw zcls zms zm63) = true := by decide +kernel
theorem zp63 : z_okP ztb znw zcls zms zm63 := z_okP_of 4238 4236 4237 1003 (z_codeIn (ch := 4) (i := 238) (l := tables_1_4) rfl rfl) (by decide +kernel) zq63
theorem zq64 : (z_cd zm64).all (z_okE ztb znw zcls zms zm64) = true := by decide +kernel
theorem zp64 : z_okP ztb znw zcls zms zm64 := z_okP_of 7058 7056 7057 1001 (z_codeIn (ch := 7) (i := 58) (l := tables_1_7) rfl rfl) (by decide +kernel) zq64
theorem zq65 : (z_cd zm65).all (z_okE ztb znw zcls zms zm65) = true := by decide +kernel
theorem zp65 : z_okP ztb znw zcls zms zm65 := z_okP_of 7125 7124 0 1001 (z_codeIn (ch := 7) (i := 125) (l := tables_1_7) rfl rfl) (by decide +kernel) zq65
theorem zq66 : (z_cd zm66).all (z_okE ztb znw zcls zms zm66) = true := by decide +kernel
theorem zp66 : z_okP ztb znw zcls zms zm66 := z_okP_of 5239 5238 0 1001 (z_codeIn (ch := 5) (i := 239) (l := tables_1_5) rfl rfl) (by decide +kernel) zq66
theorem zq67 : (z_cd zm67).all (z_okE ztb znw zcls zms zm67) = true := by decide +kernel
theorem zp67 : z_okP ztb znw zcls zms zm67 := z_okP_of 7161 7160 69 1010 (z_codeIn (ch := 7) (i := 161) (l := tables_1_7) rfl rfl) (by decide +kernel) zq67
theorem zq68 : (z_cd zm68).all (z_okE ztb znw zcls zms zm68) = true := by decide +kernel
theorem zp68 : z_okP ztb znw zcls zms zm68 := z_okP_of 7187 7186 73 1010 (z_codeIn (ch := 7) (i := 187) (l := tables_1_7) rfl rfl) (by decide +kernel) zq68
theorem zq69 : (z_cd zm69).all (z_okE ztb znw zcls zms zm69) = true := by decide +kernel
theorem zp69 : z_okP ztb znw zcls zms zm69 := z_okP_of 7157 7155 7156 1010 (z_codeIn (ch := 7) (i := 157) (l := tables_1_7) rfl rfl) (by decide +kernel) zq69
theorem zq70 : (z_cd zm70).all (z_okE ztb znw zcls zms zm70) = true := by decide +kernel
theorem zp70 : z_okP ztb znw zcls zms zm70 := z_okP_of 7153 7151 7152 1001 (z_codeIn (ch := 7) (i := 153) (l := tables_1_7) rfl rfl) (by decide +kernel) zq70
theorem zq71 : (z_cd zm71).all (z_okE ztb znw zcls zms zm71) = true := by decide +kernel
theorem zp71 : z_okP ztb znw zcls zms zm71 := z_okP_of 5201 5199 5200 1008 (z_codeIn (ch := 5) (i := 201) (l := tables_1_5) rfl rfl) (by decide +kernel) zq71
theorem zq72 : (z_cd zm72).all (z_okE ztb znw zcls zms zm72) = true := by decide +kernel
theorem zp72 : z_okP ztb znw zcls zms zm72 := z_okP_of 6118 6116 6117 1001 (z_codeIn (ch := 6) (i := 118) (l := tables_1_6) rfl rfl) (by decide +kernel) zq72
theorem zq73 : (z_cd zm73).all (z_okE ztb znw zcls zms zm73) = true := by decide +kernel
theorem zp73 : z_okP ztb znw zcls zms zm73 := z_okP_of 7207 7205 7206 1010 (z_codeIn (ch := 7) (i := 207) (l := tables_1_7) rfl rfl) (by decide +kernel) zq73
theorem zq74 : (z_cd zm74).all (z_okE ztb znw zcls zms zm74) = true := by decide +kernel
theorem zp74 : z_okP ztb znw zcls zms zm74 := z_okP_of 7211 7209 7210 1001 (z_codeIn (ch := 7) (i := 211) (l := tables_1_7) rfl rfl) (by decide +kernel) zq74
theorem zq75 : (z_cd zm75).all (z_okE ztb znw zcls zms zm75) = true := by decide +kernel
theorem zp75 : z_okP ztb znw zcls zms zm75 := z_okP_of 5221 5219 5220 1001 (z_codeIn (ch := 5) (i := 221) (l := tables_1_5) rfl rfl) (by decide +kernel) zq75
theorem zq76_0 : (((z_cd zm76).drop 0).take 40).all (z_okE ztb znw zcls zms zm76) = true := by decide +kernel
theorem zq76_1 : (((z_cd zm76).drop 40).take 40).all (z_okE ztb znw zcls zms zm76) = true := by decide +kernel
theorem zq76_e2 : ((z_cd zm76).drop 80).all (z_okE ztb znw zcls zms zm76) = true := z_seg_end (by decide +kernel)
theorem zq76_e1 : ((z_cd zm76).drop 40).all (z_okE ztb znw zcls zms zm76) = true := z_seg (a := 40) (k := 40) zq76_1 zq76_e2
theorem zq76_e0 : ((z_cd zm76).drop 0).all (z_okE ztb znw zcls zms zm76) = true := z_seg (a := 0) (k := 40) zq76_0 zq76_e1
theorem zq76 : (z_cd zm76).all (z_okE ztb znw zcls zms zm76) = true := z_seg0 zq76_e0
theorem zp76 : z_okP ztb znw zcls zms zm76 := z_okP_of 8019 8017 8018 1011 (z_codeIn (ch := 8) (i := 19) (l := tables_1_8) rfl rfl) (by decide +kernel) zq76
end
section
theorem zq77_0 : (((z_cd zm77).drop 0).take 40).all (z_okE ztb znw zcls zms zm77) = true := by decide +kernel
theorem zq77_1 : (((z_cd zm77).drop 40).take 40).all (z_okE ztb znw zcls zms zm77) = true := by decide +kernel
theorem zq77_e2 : ((z_cd zm77).drop 80).all (z_okE ztb znw zcls zms zm77) = true := z_seg_end (by decide +kernel)
theorem zq77_e1 : ((z_cd zm77).drop 40).all (z_okE ztb znw zcls zms zm77) = true := z_seg (a := 40) (k := 40) zq77_1 zq77_e2
theorem zq77_e0 : ((z_cd zm77).drop 0).all (z_okE ztb znw zcls zms zm77) = true := z_seg (a := 0) (k := 40) zq77_0 zq77_e1
theorem zq77 : (z_cd zm77).all (z_okE ztb znw zcls zms zm77) = true := z_seg0 zq77_e0
theorem zp77 : z_okP ztb znw zcls zms zm77 := z_okP_of 8015 8013 8014 1001 (z_codeIn (ch := 8) (i := 15) (l := tables_1_8) rfl rfl) (by decide +kernel) zq77
theorem zq78 : (z_cd zm78).all (z_okE ztb znw zcls zms zm78) = true := by decide +kernel
theorem zp78 : z_okP ztb znw zcls zms zm78 := z_okP_of 3212 3211 6 1002 (z_codeIn (ch := 3) (i := 212) (l := tables_1_3) rfl rfl) (by decide +kernel) zq78
theorem zq79 : (z_cd zm79).all (z_okE ztb znw zcls zms zm79) = true := by decide +kernel
theorem zp79 : z_okP ztb znw zcls zms zm79 := z_okP_of 3223 3222 8 1002 (z_codeIn (ch := 3) (i := 223) (l := tables_1_3) rfl rfl) (by decide +kernel) zq79
theorem zq80 : (z_cd zm80).all (z_okE ztb znw zcls zms zm80) = true := by decide +kernel
theorem zp80 : z_okP ztb znw zcls zms zm80 := z_okP_of 3201 3200 4 1002 (z_codeIn (ch := 3) (i := 201) (l := tables_1_3) rfl rfl) (by decide +kernel) zq80
theorem zq81 : (z_cd zm81).all (z_okE ztb znw zcls zms zm81) = true := by decide +kernel
theorem zp81 : z_okP ztb znw zcls zms zm81 := z_okP_of 3193 3191 3192 1002 (z_codeIn (ch := 3) (i := 193) (l := tables_1_3) rfl rfl) (by decide +kernel) zq81
theorem zq82 : (z_cd zm82).all (z_okE ztb znw zcls zms zm82) = true := by decide +kernel
theorem zp82 : z_okP ztb znw zcls zms zm82 := z_okP_of 3189 3187 3188 1001 (z_codeIn (ch := 3) (i := 189) (l := tables_1_3) rfl rfl) (by decide +kernel) zq82
theorem zq83 : (z_cd zm83).all (z_okE ztb znw zcls zms zm83) = true := by decide +kernel
theorem zp83 : z_okP ztb znw zcls zms zm83 := z_okP_of 5128 5126 5127 1001 (z_codeIn (ch := 5) (i := 128) (l := tables_1_5) rfl rfl) (by decide +kernel) zq83
theorem zq84 : (z_cd zm84).all (z_okE ztb znw zcls zms zm84) = true := by decide +kernel
theorem zp84 : z_okP ztb znw zcls zms zm84 := z_okP_of 7203 7201 7202 1001 (z_codeIn (ch := 7) (i := 203) (l := tables_1_7) rfl rfl) (by decide +kernel) zq84
theorem zq85 : (z_cd zm85).all (z_okE ztb znw zcls zms zm85) = true := by decide +kernel
theorem zp85 : z_okP ztb znw zcls zms zm85 := z_okP_of 7238 7236 7237 1001 (z_codeIn (ch := 7) (i := 238) (l := tables_1_7) rfl rfl) (by decide +kernel) zq85
theorem zq86 : (z_cd zm86).all (z_okE ztb znw zcls zms zm86) = true := by decide +kernel
theorem zp86 : z_okP ztb znw zcls zms zm86 := z_okP_of 4218 4216 4217 1001 (z_codeIn (ch := 4) (i := 218) (l := tables_1_4) rfl rfl) (by decide +kernel) zq86
theorem zq87 : (z_cd zm87).all (z_okE ztb znw zcls zms zm87) = true := by decide +kernel
theorem zp87 : z_okP ztb znw zcls zms zm87 := z_okP_of 5124 5122 5123 1001 (z_codeIn (ch := 5) (i := 124) (l := tables_1_5) rfl rfl) (by decide +kernel) zq87
theorem zq88 : (z_cd zm88).all (z_okE ztb znw zcls zms zm88) = true := by decide +kernel
theorem zp88 : z_okP ztb znw zcls zms zm88 := z_okP_of 5111 5110 38 1006 (z_codeIn (ch := 5) (i := 111) (l := tables_1_5) rfl rfl) (by decide +kernel) zq88
theorem zq89 : (z_cd zm89).all (z_okE ztb znw zcls zms zm89) = true := by decide +kernel
theorem zp89 : z_okP ztb znw zcls zms zm89 := z_okP_of 5189 5187 5188 1006 (z_codeIn (ch := 5) (i := 189) (l := tables_1_5) rfl rfl) (by decide +kernel) zq89
theorem zq90 : (z_cd zm90).all (z_okE ztb znw zcls zms zm90) = true := by decide +kernel
theorem zp90 : z_okP ztb znw zcls zms zm90 := z_okP_of 5185 5183 5184 1001 (z_codeIn (ch := 5) (i := 185) (l := tables_1_5) rfl rfl) (by decide +kernel) zq90
theorem zq91 : (z_cd zm91).all (z_okE ztb znw zcls zms zm91) = true := by decide +kernel
theorem zp91 : z_okP ztb znw zcls zms zm91 := z_okP_of 5005 5003 5004 1001 (z_codeIn (ch := 5) (i := 5) (l := tables_1_5) rfl rfl) (by decide +kernel) zq91
theorem zq92 : (z_cd zm92).all (z_okE ztb znw zcls zms zm92) = true := by decide +kernel
theorem zp92 : z_okP ztb znw zcls zms zm92 := z_okP_of 5133 5131 5132 1001 (z_codeIn (ch := 5) (i := 133) (l := tables_1_5) rfl rfl) (by decide +kernel) zq92
theorem zq93 : (z_cd zm93).all (z_okE ztb znw zcls zms zm93) = true := by decide +kernel
theorem zp93 : z_okP ztb znw zcls zms zm93 := z_okP_of 5017 5015 5016 1001 (z_codeIn (ch := 5) (i := 17) (l := tables_1_5) rfl rfl) (by decide +kernel) zq93
theorem zq94 : (z_cd zm94).all (z_okE ztb znw zcls zms zm94) = true := by decide +kernel
theorem zp94 : z_okP ztb znw zcls zms zm94 := z_okP_of 5013 5011 5012 1001 (z_codeIn (ch := 5) (i := 13) (l := tables_1_5) rfl rfl) (by decide +kernel) zq94
theorem zq95 : (z_cd zm95).all (z_okE ztb znw zcls zms zm95) = true := by decide +kernel
theorem zp95 : z_okP ztb znw zcls zms zm95 := z_okP_of 7133 7131 7132 1009 (z_codeIn (ch := 7) (i := 133) (l := tables_1_7) rfl rfl) (by decide +kernel) zq95
theorem zq96 : (z_cd zm96).all (z_okE ztb znw zcls zms zm96) = true := by decide +kernel
theorem zp96 : z_okP ztb znw zcls zms zm96 := z_okP_of 7129 7127 7128 1001 (z_codeIn (ch := 7) (i := 129) (l := tables_1_7) rfl rfl) (by decide +kernel) zq96
theorem zq97 : (z_cd zm97).all (z_okE ztb znw zcls zms zm97) = true := by decide +kernel
theorem zp97 : z_okP ztb znw zcls zms zm97 := z_okP_of 4222 4220 4221 1001 (z_codeIn (ch := 4) (i := 222) (l := tables_1_4) rfl rfl) (by decide +kernel) zq97
theorem zq98 : (z_cd zm98).all (z_okE ztb znw zcls zms zm98) = true := by decide +kernel
theorem zp98 : z_okP ztb znw zcls zms zm98 := z_okP_of 5037 5035 5036 1001 (z_codeIn (ch := 5) (i := 37) (l := tables_1_5) rfl rfl) (by decide +kernel) zq98
theorem zq99 : (z_cd zm99).all (z_okE ztb znw zcls zms zm99) = true := by decide +kernel
theorem zp99 : z_okP ztb znw zcls zms zm99 := z_okP_of 4234 4232 4233 1001 (z_codeIn (ch := 4) (i := 234) (l := tables_1_4) rfl rfl) (by decide +kernel) zq99
theorem zq100 : (z_cd zm100).all (z_okE ztb znw zcls zms zm100) = true := by decide +kernel
theorem zp100 : z_okP ztb znw zcls zms zm100 := z_okP_of 6098 6096 6097 1001 (z_codeIn (ch := 6) (i := 98) (l := tables_1_6) rfl rfl) (by decide +kernel) zq100
theorem zq101 : (z_cd zm101).all (z_okE ztb znw zcls zms zm101) = true := by decide +kernel
theorem zp101 : z_okP ztb znw zcls zms zm101 := z_okP_of 7108 7106 7107 1001 (z_codeIn (ch := 7) (i := 108) (l := tables_1_7) rfl rfl) (by decide +kernel) zq101
theorem zq102 : (z_cd zm102).all (z_okE ztb znw zcls zms zm102) = true := by decide +kernel
theorem zp102 : z_okP ztb znw zcls zms zm102 := z_okP_of 7122 7120 7121 1001 (z_codeIn (ch := 7) (i := 122) (l := tables_1_7) rfl rfl) (by decide +kernel) zq102
theorem zq103 : (z_cd zm103).all (z_okE ztb znw zcls zms zm103) = true := by decide +kernel
theorem zp103 : z_okP ztb znw zcls zms zm103 := z_okP_of 7137 7135 7136 1001 (z_codeIn (ch := 7) (i := 137) (l := tables_1_7) rfl rfl) (by decide +kernel) zq103
theorem zq104 : (z_cd zm104).all (z_okE ztb znw zcls zms zm104) = true := by decide +kernel
theorem zp104 : z_okP ztb znw zcls zms zm104 := z_okP_of 7095 7093 7094 1006 (z_codeIn (ch := 7) (i := 95) (l := tables_1_7) rfl rfl) (by decide +kernel) zq104
theorem zq105 : (z_cd zm105).all (z_okE ztb znw zcls zms zm105) = true := by decide +kernel
theorem zp105 : z_okP ztb znw zcls zms zm105 := z_okP_of 7091 7089 7090 1001 (z_codeIn (ch := 7) (i := 91) (l := tables_1_7) rfl rfl) (by decide +kernel) zq105
theorem zq106 : (z_cd zm106).all (z_okE ztb znw zcls zms zm106) = true := by decide +kernel
theorem zp106 : z_okP ztb znw zcls zms zm106 := z_okP_of 6146 6144 6145 1001 (z_codeIn (ch := 6) (i := 146) (l := tables_1_6) rfl rfl) (by decide +kernel) zq106
theorem zq107 : (z_cd zm107).all (z_okE ztb znw zcls zms zm107) = true := by decide +kernel
theorem zp107 : z_okP ztb znw zcls zms zm107 := z_okP_of 6103 6101 6102 1001 (z_codeIn (ch := 6) (i := 103) (l := tables_1_6) rfl rfl) (by decide +kernel) zq107
theorem zq108 : (z_cd zm108).all (z_okE ztb znw zcls zms zm108) = true := by decide +kernel
theorem zp108 : z_okP ztb znw zcls zms zm108 := z_okP_of 6142 6140 6141 1001 (z_codeIn (ch := 6) (i := 142) (l := tables_1_6) rfl rfl) (by decide +kernel) zq108
theorem zq109 : (z_cd zm109).all (z_okE ztb znw zcls zms zm109) = true := by decide +kernel
theorem zp109 : z_okP ztb znw zcls zms zm109 := z_okP_of 8050 8048 8049 1001 (z_codeIn (ch := 8) (i := 50) (l := tables_1_8) rfl rfl) (by decide +kernel) zq109
theorem zq110 : (z_cd zm110).all (z_okE ztb znw zcls zms zm110) = true := by decide +kernel
theorem zp110 : z_okP ztb znw zcls zms zm110 := z_okP_of 5168 5166 5167 1001 (z_codeIn (ch := 5) (i := 168) (l := tables_1_5) rfl rfl) (by decide +kernel) zq110
theorem zq111_0 : (((z_cd zm111).drop 0).take 40).all (z_okE ztb znw zcls zms zm111) = true := by decide +kernel
theorem zq111_1 : (((z_cd zm111).drop 40).take 40).all (z_okE ztb znw zcls zms zm111) = true := by decide +kernel
theorem zq111_e2 : ((z_cd zm111).drop 80).all (z_okE ztb znw zcls zms zm111) = true := z_seg_end (by decide +kernel)
theorem zq111_e1 : ((z_cd zm111).drop 40).all (z_okE ztb znw zcls zms zm111) = true := z_seg (a := 40) (k := 40) zq111_1 zq111_e2
theorem zq111_e0 : ((z_cd zm111).drop 0).all (z_okE ztb znw zcls zms zm111) = true := z_seg (a := 0) (k := 40) zq111_0 zq111_e1
theorem zq111 : (z_cd zm111).all (z_okE ztb znw zcls zms zm111) = true := z_seg0 zq111_e0
theorem zp111 : z_okP ztb znw zcls zms zm111 := z_okP_of 8105 8104 86 1012 (z_codeIn (ch := 8) (i := 105) (l := tables_1_8) rfl rfl) (by decide +kernel) zq111
theorem zq112 : (z_cd zm112).all (z_okE ztb znw zcls zms zm112) = true := by decide +kernel
theorem zp112 : z_okP ztb znw zcls zms zm112 := z_okP_of 8101 8100 85 1012 (z_codeIn (ch := 8) (i := 101) (l := tables_1_8) rfl rfl) (by decide +kernel) zq112
end
section
theorem zq113 : (z_cd zm113).all (z_okE ztb znw zcls zms zm113) = true := by decide +kernel
theorem zp113 : z_okP ztb znw zcls zms zm113 := z_okP_of 8097 8096 84 1012 (z_codeIn (ch := 8) (i := 97) (l := tables_1_8) rfl rfl) (by decide +kernel) zq113
theorem zq114 : (z_cd zm114).all (z_okE ztb znw zcls zms zm114) = true := by decide +kernel
theorem zp114 : z_okP ztb znw zcls zms zm114 := z_okP_of 8093 8092 0 1012 (z_codeIn (ch := 8) (i := 93) (l := tables_1_8) rfl rfl) (by decide +kernel) zq114
theorem zq115_0 : (((z_cd zm115).drop 0).take 40).all (z_okE ztb znw zcls zms zm115) = true := by decide +kernel
theorem zq115_1 : (((z_cd zm115).drop 40).take 40).all (z_okE ztb znw zcls zms zm115) = true := by decide +kernel
theorem zq115_e2 : ((z_cd zm115).drop 80).all (z_okE ztb znw zcls zms zm115) = true := z_seg_end (by decide +kernel)
theorem zq115_e1 : ((z_cd zm115).drop 40).all (z_okE ztb znw zcls zms zm115) = true := z_seg (a := 40) (k := 40) zq115_1 zq115_e2
theorem zq115_e0 : ((z_cd zm115).drop 0).all (z_okE ztb znw zcls zms zm115) = true := z_seg (a := 0) (k := 40) zq115_0 zq115_e1
theorem zq115 : (z_cd zm115).all (z_okE ztb znw zcls zms zm115) = true := z_seg0 zq115_e0
theorem zp115 : z_okP ztb znw zcls zms zm115 := z_okP_of 8090 8089 83 1012 (z_codeIn (ch := 8) (i := 90) (l := tables_1_8) rfl rfl) (by decide +kernel) zq115
theorem zq116 : (z_cd zm116).all (z_okE ztb znw zcls zms zm116) = true := by decide +kernel
theorem zp116 : z_okP ztb znw zcls zms zm116 := z_okP_of 8086 8085 82 1012 (z_codeIn (ch := 8) (i := 86) (l := tables_1_8) rfl rfl) (by decide +kernel) zq116
theorem zq117 : (z_cd zm117).all (z_okE ztb znw zcls zms zm117) = true := by decide +kernel
theorem zp117 : z_okP ztb znw zcls zms zm117 := z_okP_of 8109 8108 87 1012 (z_codeIn (ch := 8) (i := 109) (l := tables_1_8) rfl rfl) (by decide +kernel) zq117
theorem zq118_0 : (((z_cd zm118).drop 0).take 40).all (z_okE ztb znw zcls zms zm118) = true := by decide +kernel
theorem zq118_1 : (((z_cd zm118).drop 40).take 40).all (z_okE ztb znw zcls zms zm118) = true := by decide +kernel
theorem zq118_2 : (((z_cd zm118).drop 80).take 40).all (z_okE ztb znw zcls zms zm118) = true := by decide +kernel
theorem zq118_e3 : ((z_cd zm118).drop 120).all (z_okE ztb znw zcls zms zm118) = true := z_seg_end (by decide +kernel)
theorem zq118_e2 : ((z_cd zm118).drop 80).all (z_okE ztb znw zcls zms zm118) = true := z_seg (a := 80) (k := 40) zq118_2 zq118_e3
theorem zq118_e1 : ((z_cd zm118).drop 40).all (z_okE ztb znw zcls zms zm118) = true := z_seg (a := 40) (k := 40) zq118_1 zq118_e2
theorem zq118_e0 : ((z_cd zm118).drop 0).all (z_okE ztb znw zcls zms zm118) = true := z_seg (a := 0) (k := 40) zq118_0 zq118_e1
theorem zq118 : (z_cd zm118).all (z_okE ztb znw zcls zms zm118) = true := z_seg0 zq118_e0
theorem zp118 : z_okP ztb znw zcls zms zm118 := z_okP_of 8082 8081 81 1012 (z_codeIn (ch := 8) (i := 82) (l := tables_1_8) rfl rfl) (by decide +kernel) zq118
theorem zq119_0 : (((z_cd zm119).drop 0).take 40).all (z_okE ztb znw zcls zms zm119) = true := by decide +kernel
theorem zq119_1 : (((z_cd zm119).drop 40).take 40).all (z_okE ztb znw zcls zms zm119) = true := by decide +kernel
theorem zq119_e2 : ((z_cd zm119).drop 80).all (z_okE ztb znw zcls zms zm119) = true := z_seg_end (by decide +kernel)
theorem zq119_e1 : ((z_cd zm119).drop 40).all (z_okE ztb znw zcls zms zm119) = true := z_seg (a := 40) (k := 40) zq119_1 zq119_e2
theorem zq119_e0 : ((z_cd zm119).drop 0).all (z_okE ztb znw zcls zms zm119) = true := z_seg (a := 0) (k := 40) zq119_0 zq119_e1
theorem zq119 : (z_cd zm119).all (z_okE ztb znw zcls zms zm119) = true := z_seg0 zq119_e0
theorem zp119 : z_okP ztb znw zcls zms zm119 := z_okP_of 8078 8077 80 1012 (z_codeIn (ch := 8) (i := 78) (l := tables_1_8) rfl rfl) (by decide +kernel) zq119
theorem zq120_0 : (((z_cd zm120).drop 0).take 40).all (z_okE ztb znw zcls zms zm120) = true := by decide +kernel
theorem zq120_1 : (((z_cd zm120).drop 40).take 40).all (z_okE ztb znw zcls zms zm120) = true := by decide +kernel
theorem zq120_2 : (((z_cd zm120).drop 80).take 40).all (z_okE ztb znw zcls zms zm120) = true := by decide +kernel
theorem zq120_3 : (((z_cd zm120).drop 120).take 40).all (z_okE ztb znw zcls zms zm120) = true := by decide +kernel
theorem zq120_4 : (((z_cd zm120).drop 160).take 40).all (z_okE ztb znw zcls zms zm120) = true := by decide +kernel
theorem zq120_5 : (((z_cd zm120).drop 200).take 40).all (z_okE ztb znw zcls zms zm120) = true := by decide +kernel
theorem zq120_6 : (((z_cd zm120).drop 240).take 40).all (z_okE ztb znw zcls zms zm120) = true := by decide +kernel
theorem zq120_7 : (((z_cd zm120).drop 280).take 40).all (z_okE ztb znw zcls zms zm120) = true := by decide +kernel
theorem zq120_8 : (((z_cd zm120).drop 320).take 40).all (z_okE ztb znw zcls zms zm120) = true := by decide +kernel
theorem zq120_9 : (((z_cd zm120).drop 360).take 40).all (z_okE ztb znw zcls zms zm120) = true := by decide +kernel
theorem zq120_10 : (((z_cd zm120).drop 400).take 40).all (z_okE ztb znw zcls zms zm120) = true := by decide +kernel
theorem zq120_11 : (((z_cd zm120).drop 440).take 40).all (z_okE ztb znw zcls zms zm120) = true := by decide +kernel
theorem zq120_e12 : ((z_cd zm120).drop 480).all (z_okE ztb znw zcls zms zm120) = true := z_seg_end (by decide +kernel)
theorem zq120_e11 : ((z_cd zm120).drop 440).all (z_okE ztb znw zcls zms zm120) = true := z_seg (a := 440) (k := 40) zq120_11 zq120_e12
theorem zq120_e10 : ((z_cd zm120).drop 400).all (z_okE ztb znw zcls zms zm120) = true := z_seg (a := 400) (k := 40) zq120_10 zq120_e11
theorem zq120_e9 : ((z_cd zm120).drop 360).all (z_okE ztb znw zcls zms zm120) = true := z_seg (a := 360) (k := 40) zq120_9 zq120_e10
theorem zq120_e8 : ((z_cd zm120).drop 320).all (z_okE ztb znw zcls zms zm120) = true := z_seg (a := 320) (k := 40) zq120_8 zq120_e9
theorem zq120_e7 : ((z_cd zm120).drop 280).all (z_okE ztb znw zcls zms zm120) = true := z_seg (a := 280) (k := 40) zq120_7 zq120_e8
theorem zq120_e6 : ((z_cd zm120).drop 240).all (z_okE ztb znw zcls zms zm120) = true := z_seg (a := 240) (k := 40) zq120_6 zq120_e7
theorem zq120_e5 : ((z_cd zm120).drop 200).all (z_okE ztb znw zcls zms zm120) = true := z_seg (a := 200) (k := 40) zq120_5 zq120_e6
theorem zq120_e4 : ((z_cd zm120).drop 160).all (z_okE ztb znw zcls zms zm120) = true := z_seg (a := 160) (k := 40) zq120_4 zq120_e5
theorem zq120_e3 : ((z_cd zm120).drop 120).all (z_okE ztb znw zcls zms zm120) = true := z_seg (a := 120) (k := 40) zq120_3 zq120_e4
theorem zq120_e2 : ((z_cd zm120).drop 80).all (z_okE ztb znw zcls zms zm120) = true := z_seg (a := 80) (k := 40) zq120_2 zq120_e3
theorem zq120_e1 : ((z_cd zm120).drop 40).all (z_okE ztb znw zcls zms zm120) = true := z_seg (a := 40) (k := 40) zq120_1 zq120_e2
theorem zq120_e0 : ((z_cd zm120).drop 0).all (z_okE ztb znw zcls zms zm120) = true := z_seg (a := 0) (k := 40) zq120_0 zq120_e1
theorem zq120 : (z_cd zm120).all (z_okE ztb znw zcls zms zm120) = true := z_seg0 zq120_e0
theorem zp120 : z_okP ztb znw zcls zms zm120 := z_okP_of 8073 8072 0 1012 (z_codeIn (ch := 8) (i := 73) (l := tables_1_8) rfl rfl) (by decide +kernel) zq120
end
section
theorem zq121 : (z_cd zm121).all (z_okE ztb znw zcls zms zm121) = true := by decide +kernel
theorem zp121 : z_okP ztb znw zcls zms zm121 := z_okP_of 12133 12132 184 1012 (z_codeIn (ch := 12) (i := 133) (l := tables_1_12) rfl rfl) (by decide +kernel) zq121
theorem zq122 : (z_cd zm122).all (z_okE ztb znw zcls zms zm122) = true := by decide +kernel
theorem zp122 : z_okP ztb znw zcls zms zm122 := z_okP_of 12129 12128 183 1012 (z_codeIn (ch := 12) (i := 129) (l := tables_1_12) rfl rfl) (by decide +kernel) zq122
theorem zq123 : (z_cd zm123).all (z_okE ztb znw zcls zms zm123) = true := by decide +kernel
theorem zp123 : z_okP ztb znw zcls zms zm123 := z_okP_of 12137 12136 185 1012 (z_codeIn (ch := 12) (i := 137) (l := tables_1_12) rfl rfl) (by decide +kernel) zq123
theorem zq124 : (z_cd zm124).all (z_okE ztb znw zcls zms zm124) = true := by decide +kernel
theorem zp124 : z_okP ztb znw zcls zms zm124 := z_okP_of 12117 12115 12116 1012 (z_codeIn (ch := 12) (i := 117) (l := tables_1_12) rfl rfl) (by decide +kernel) zq124
theorem zq125 : (z_cd zm125).all (z_okE ztb znw zcls zms zm125) = true := by decide +kernel
theorem zp125 : z_okP ztb znw zcls zms zm125 := z_okP_of 10079 10078 0 1012 (z_codeIn (ch := 10) (i := 79) (l := tables_1_10) rfl rfl) (by decide +kernel) zq125
theorem zq126 : (z_cd zm126).all (z_okE ztb znw zcls zms zm126) = true := by decide +kernel
theorem zp126 : z_okP ztb znw zcls zms zm126 := z_okP_of 10199 10198 110 1012 (z_codeIn (ch := 10) (i := 199) (l := tables_1_10) rfl rfl) (by decide +kernel) zq126
theorem zq127 : (z_cd zm127).all (z_okE ztb znw zcls zms zm127) = true := by decide +kernel
theorem zp127 : z_okP ztb znw zcls zms zm127 := z_okP_of 11127 11126 141 1012 (z_codeIn (ch := 11) (i := 127) (l := tables_1_11) rfl rfl) (by decide +kernel) zq127
theorem zq128 : (z_cd zm128).all (z_okE ztb znw zcls zms zm128) = true := by decide +kernel
theorem zp128 : z_okP ztb znw zcls zms zm128 := z_okP_of 11155 11153 11154 1012 (z_codeIn (ch := 11) (i := 155) (l := tables_1_11) rfl rfl) (by decide +kernel) zq128
theorem zq129 : (z_cd zm129).all (z_okE ztb znw zcls zms zm129) = true := by decide +kernel
theorem zp129 : z_okP ztb znw zcls zms zm129 := z_okP_of 10095 10094 90 1012 (z_codeIn (ch := 10) (i := 95) (l := tables_1_10) rfl rfl) (by decide +kernel) zq129
theorem zq130 : (z_cd zm130).all (z_okE ztb znw zcls zms zm130) = true := by decide +kernel
theorem zp130 : z_okP ztb znw zcls zms zm130 := z_okP_of 10215 10214 112 1012 (z_codeIn (ch := 10) (i := 215) (l := tables_1_10) rfl rfl) (by decide +kernel) zq130
theorem zq131 : (z_cd zm131).all (z_okE ztb znw zcls zms zm131) = true := by decide +kernel
theorem zp131 : z_okP ztb znw zcls zms zm131 := z_okP_of 11115 11113 11114 1012 (z_codeIn (ch := 11) (i := 115) (l := tables_1_11) rfl rfl) (by decide +kernel) zq131
theorem zq132 : (z_cd zm132).all (z_okE ztb znw zcls zms zm132) = true := by decide +kernel
theorem zp132 : z_okP ztb znw zcls zms zm132 := z_okP_of 11147 11145 11146 1012 (z_codeIn (ch := 11) (i := 147) (l := tables_1_11) rfl rfl) (by decide +kernel) zq132
theorem zq133 : (z_cd zm133).all (z_okE ztb znw zcls zms zm133) = true := by decide +kernel
theorem zp133 : z_okP ztb znw zcls zms zm133 := z_okP_of 13010 13008 13009 1012 (z_codeIn (ch := 13) (i := 10) (l := tables_1_13) rfl rfl) (by decide +kernel) zq133
theorem zq134 : (z_cd zm134).all (z_okE ztb znw zcls zms zm134) = true := by decide +kernel
theorem zp134 : z_okP ztb znw zcls zms zm134 := z_okP_of 12223 12221 12222 1012 (z_codeIn (ch := 12) (i := 223) (l := tables_1_12) rfl rfl) (by decide +kernel) zq134
theorem zq135 : (z_cd zm135).all (z_okE ztb znw zcls zms zm135) = true := by decide +kernel
theorem zp135 : z_okP ztb znw zcls zms zm135 := z_okP_of 10227 10225 10226 1012 (z_codeIn (ch := 10) (i := 227) (l := tables_1_10) rfl rfl) (by decide +kernel) zq135
theorem zq136 : (z_cd zm136).all (z_okE ztb znw zcls zms zm136) = true := by decide +kernel
theorem zp136 : z_okP ztb znw zcls zms zm136 := z_okP_of 12231 12230 195 1012 (z_codeIn (ch := 12) (i := 231) (l := tables_1_12) rfl rfl) (by decide +kernel) zq136
theorem zq137 : (z_cd zm137).all (z_okE ztb znw zcls zms zm137) = true := by decide +kernel
theorem zp137 : z_okP ztb znw zcls zms zm137 := z_okP_of 12203 12202 194 1012 (z_codeIn (ch := 12) (i := 203) (l := tables_1_12) rfl rfl) (by decide +kernel) zq137
theorem zq138_0 : (((z_cd zm138).drop 0).take 40).all (z_okE ztb znw zcls zms zm138) = true := by decide +kernel
theorem zq138_1 : (((z_cd zm138).drop 40).take 40).all (z_okE ztb znw zcls zms zm138) = true := by decide +kernel
theorem zq138_e2 : ((z_cd zm138).drop 80).all (z_okE ztb znw zcls zms zm138) = true := z_seg_end (by decide +kernel)
theorem zq138_e1 : ((z_cd zm138).drop 40).all (z_okE ztb znw zcls zms zm138) = true := z_seg (a := 40) (k := 40) zq138_1 zq138_e2
theorem zq138_e0 : ((z_cd zm138).drop 0).all (z_okE ztb znw zcls zms zm138) = true := z_seg (a := 0) (k := 40) zq138_0 zq138_e1
theorem zq138 : (z_cd zm138).all (z_okE ztb znw zcls zms zm138) = true := z_seg0 zq138_e0
theorem zp138 : z_okP ztb znw zcls zms zm138 := z_okP_of 13006 13004 13005 1012 (z_codeIn (ch := 13) (i := 6) (l := tables_1_13) rfl rfl) (by decide +kernel) zq138
theorem zq139 : (z_cd zm139).all (z_okE ztb znw zcls zms zm139) = true := by decide +kernel
theorem zp139 : z_okP ztb znw zcls zms zm139 := z_okP_of 12105 12103 12104 1012 (z_codeIn (ch := 12) (i := 105) (l := tables_1_12) rfl rfl) (by decide +kernel) zq139
theorem zq140 : (z_cd zm140).all (z_okE ztb znw zcls zms zm140) = true := by decide +kernel
theorem zp140 : z_okP ztb znw zcls zms zm140 := z_okP_of 12238 12237 196 1012 (z_codeIn (ch := 12) (i := 238) (l := tables_1_12) rfl rfl) (by decide +kernel) zq140
theorem zq141 : (z_cd zm141).all (z_okE ztb znw zcls zms zm141) = true := by decide +kernel
theorem zp141 : z_okP ztb znw zcls zms zm141 := z_okP_of 12227 12225 12226 1012 (z_codeIn (ch := 12) (i := 227) (l := tables_1_12) rfl rfl) (by decide +kernel) zq141
theorem zq142 : (z_cd zm142).all (z_okE ztb znw zcls zms zm142) = true := by decide +kernel
theorem zp142 : z_okP ztb znw zcls zms zm142 := z_okP_of 10076 10074 10075 1012 (z_codeIn (ch := 10) (i := 76) (l := tables_1_10) rfl rfl) (by decide +kernel) zq142
theorem zq143 : (z_cd zm143).all (z_okE ztb znw zcls zms zm143) = true := by decide +kernel
theorem zp143 : z_okP ztb znw zcls zms zm143 := z_okP_of 11159 11157 11158 1012 (z_codeIn (ch := 11) (i := 159) (l := tables_1_11) rfl rfl) (by decide +kernel) zq143
theorem zq144 : (z_cd zm144).all (z_okE ztb znw zcls zms zm144) = true := by decide +kernel
theorem zp144 : z_okP ztb znw zcls zms zm144 := z_okP_of 11143 11141 11142 1012 (z_codeIn (ch := 11) (i := 143) (l := tables_1_11) rfl rfl) (by decide +kernel) zq144
theorem zq145_0 : (((z_cd zm145).drop 0).take 40).all (z_okE ztb znw zcls zms zm145) = true := by decide +kernel
theorem zq145_1 : (((z_cd zm145).drop 40).take 40).all (z_okE ztb znw zcls zms zm145) = true := by decide +kernel
theorem zq145_e2 : ((z_cd zm145).drop 80).all (z_okE ztb znw zcls zms zm145) = true := z_seg_end (by decide +kernel)
theorem zq145_e1 : ((z_cd zm145).drop 40).all (z_okE ztb znw zcls zms zm145) = true := z_seg (a := 40) (k := 40) zq145_1 zq145_e2
theorem zq145_e0 : ((z_cd zm145).drop 0).all (z_okE ztb znw zcls zms zm145) = true := z_seg (a := 0) (k := 40) zq145_0 zq145_e1
theorem zq145 : (z_cd zm145).all (z_okE ztb znw zcls zms zm145) = true := z_seg0 zq145_e0
theorem zp145 : z_okP ztb znw zcls zms zm145 := z_okP_of 10072 10070 10071 1012 (z_codeIn (ch := 10) (i := 72) (l := tables_1_10) rfl rfl) (by decide +kernel) zq145
theorem zq146 : (z_cd zm146).all (z_okE ztb znw zcls zms zm146) = true := by decide +kernel
theorem zp146 : z_okP ztb znw zcls zms zm146 := z_okP_of 12157 12156 186 1012 (z_codeIn (ch := 12) (i := 157) (l := tables_1_12) rfl rfl) (by decide +kernel) zq146
theorem zq147 : (z_cd zm147).all (z_okE ztb znw zcls zms zm147) = true := by decide +kernel
theorem zp147 : z_okP ztb znw zcls zms zm147 := z_okP_of 11003 11001 11002 1012 (z_codeIn (ch := 11) (i := 3) (l := tables_1_11) rfl rfl) (by decide +kernel) zq147
theorem zq148 : (z_cd zm148).all (z_okE ztb znw zcls zms zm148) = true := by decide +kernel
theorem zp148 : z_okP ztb znw zcls zms zm148 := z_okP_of 12211 12209 12210 1012 (z_codeIn (ch := 12) (i := 211) (l := tables_1_12) rfl rfl) (by decide +kernel) zq148
theorem zq149 : (z_cd zm149).all (z_okE ztb znw zcls zms zm149) = true := by decide +kernel
theorem zp149 : z_okP ztb znw zcls zms zm149 := z_okP_of 12194 12192 12193 1012 (z_codeIn (ch := 12) (i := 194) (l := tables_1_12) rfl rfl) (by decide +kernel) zq149
theorem zq150 : (z_cd zm150).all (z_okE ztb znw zcls zms zm150) = true := by decide +kernel
theorem zp150 : z_okP ztb znw zcls zms zm150 := z_okP_of 12215 12213 12214 1012 (z_codeIn (ch := 12) (i := 215) (l := tables_1_12) rfl rfl) (by decide +kernel) zq150
theorem zq151 : (z_cd zm151).all (z_okE ztb znw zcls zms zm151) = true := by decide +kernel
theorem zp151 : z_okP ztb znw zcls zms zm151 := z_okP_of 11135 11133 11134 1012 (z_codeIn (ch := 11) (i := 135) (l := tables_1_11) rfl rfl) (by decide +kernel) zq151
theorem zq152 : (z_cd zm152).all (z_okE ztb znw zcls zms zm152) = true := by decide +kernel
theorem zp152 : z_okP ztb znw zcls zms zm152 := z_okP_of 11139 11138 142 1012 (z_codeIn (ch := 11) (i := 139) (l := tables_1_11) rfl rfl) (by decide +kernel) zq152
theorem zq153 : (z_cd zm153).all (z_okE ztb znw zcls zms zm153) = true := by decide +kernel
theorem zp153 : z_okP ztb znw zcls zms zm153 := z_okP_of 10207 10206 111 1012 (z_codeIn (ch := 10) (i := 207) (l := tables_1_10) rfl rfl) (by decide +kernel) zq153
theorem zq154 : (z_cd zm154).all (z_okE ztb znw zcls zms zm154) = true := by decide +kernel
theorem zp154 : z_okP ztb znw zcls zms zm154 := z_okP_of 12077 12075 12076 1012 (z_codeIn (ch := 12) (i := 77) (l := tables_1_12) rfl rfl) (by decide +kernel) zq154
theorem zq155_0 : (((z_cd zm155).drop 0).take 40).all (z_okE ztb znw zcls zms zm155) = true := by decide +kernel
theorem zq155_1 : (((z_cd zm155).drop 40).take 40).all (z_okE ztb znw zcls zms zm155) = true := by decide +kernel
theorem zq155_e2 : ((z_cd zm155).drop 80).all (z_okE ztb znw zcls zms zm155) = true := z_seg_end (by decide +kernel)
theorem zq155_e1 : ((z_cd zm155).drop 40).all (z_okE ztb znw zcls zms zm155) = true := z_seg (a := 40) (k := 40) zq155_1 zq155_e2
theorem zq155_e0 : ((z_cd zm155).drop 0).all (z_okE ztb znw zcls zms zm155) = true := z_seg (a := 0) (k := 40) zq155_0 zq155_e1
theorem zq155 : (z_cd zm155).all (z_okE ztb znw zcls zms zm155) = true := z_seg0 zq155_e0
theorem zp155 : z_okP ztb znw zcls zms zm155 := z_okP_of 12153 12151 12152 1012 (z_codeIn (ch := 12) (i := 153) (l := tables_1_12) rfl rfl) (by decide +kernel) zq155
end
section
theorem zq156 : (z_cd zm156).all (z_okE ztb znw zcls zms zm156) = true := by decide +kernel
theorem zp156 : z_okP ztb znw zcls zms zm156 := z_okP_of 11196 11195 150 1012 (z_codeIn (ch := 11) (i := 196) (l := tables_1_11) rfl rfl) (by decide +kernel) zq156
theorem zq157 : (z_cd zm157).all (z_okE ztb znw zcls zms zm157) = true := by decide +kernel
theorem zp157 : z_okP ztb znw zcls zms zm157 := z_okP_of 11208 11206 11207 1012 (z_codeIn (ch := 11) (i := 208) (l := tables_1_11) rfl rfl) (by decide +kernel) zq157
theorem zq158 : (z_cd zm158).all (z_okE ztb znw zcls zms zm158) = true := by decide +kernel
theorem zp158 : z_okP ztb znw zcls zms zm158 := z_okP_of 12189 12187 12188 1012 (z_codeIn (ch := 12) (i := 189) (l := tables_1_12) rfl rfl) (by decide +kernel) zq158
theorem zq159 : (z_cd zm159).all (z_okE ztb znw zcls zms zm159) = true := by decide +kernel
theorem zp159 : z_okP ztb znw zcls zms zm159 := z_okP_of 11151 11149 11150 1012 (z_codeIn (ch := 11) (i := 151) (l := tables_1_11) rfl rfl) (by decide +kernel) zq159
theorem zq160_0 : (((z_cd zm160).drop 0).take 40).all (z_okE ztb znw zcls zms zm160) = true := by decide +kernel
theorem zq160_1 : (((z_cd zm160).drop 40).take 40).all (z_okE ztb znw zcls zms zm160) = true := by decide +kernel
theorem zq160_e2 : ((z_cd zm160).drop 80).all (z_okE ztb znw zcls zms zm160) = true := z_seg_end (by decide +kernel)
theorem zq160_e1 : ((z_cd zm160).drop 40).all (z_okE ztb znw zcls zms zm160) = true := z_seg (a := 40) (k := 40) zq160_1 zq160_e2
theorem zq160_e0 : ((z_cd zm160).drop 0).all (z_okE ztb znw zcls zms zm160) = true := z_seg (a := 0) (k := 40) zq160_0 zq160_e1
theorem zq160 : (z_cd zm160).all (z_okE ztb znw zcls zms zm160) = true := z_seg0 zq160_e0
theorem zp160 : z_okP ztb znw zcls zms zm160 := z_okP_of 12219 12217 12218 1012 (z_codeIn (ch := 12) (i := 219) (l := tables_1_12) rfl rfl) (by decide +kernel) zq160
theorem zq161_0 : (((z_cd zm161).drop 0).take 40).all (z_okE ztb znw zcls zms zm161) = true := by decide +kernel
theorem zq161_1 : (((z_cd zm161).drop 40).take 40).all (z_okE ztb znw zcls zms zm161) = true := by decide +kernel
theorem zq161_e2 : ((z_cd zm161).drop 80).all (z_okE ztb znw zcls zms zm161) = true := z_seg_end (by decide +kernel)
theorem zq161_e1 : ((z_cd zm161).drop 40).all (z_okE ztb znw zcls zms zm161) = true := z_seg (a := 40) (k := 40) zq161_1 zq161_e2
theorem zq161_e0 : ((z_cd zm161).drop 0).all (z_okE ztb znw zcls zms zm161) = true := z_seg (a := 0) (k := 40) zq161_0 zq161_e1
theorem zq161 : (z_cd zm161).all (z_okE ztb znw zcls zms zm161) = true := z_seg0 zq161_e0
theorem zp161 : z_okP ztb znw zcls zms zm161 := z_okP_of 10091 10090 89 1012 (z_codeIn (ch := 10) (i := 91) (l := tables_1_10) rfl rfl) (by decide +kernel) zq161
theorem zq162 : (z_cd zm162).all (z_okE ztb znw zcls zms zm162) = true := by decide +kernel
theorem zp162 : z_okP ztb znw zcls zms zm162 := z_okP_of 10113 10112 93 1012 (z_codeIn (ch := 10) (i := 113) (l := tables_1_10) rfl rfl) (by decide +kernel) zq162
theorem zq163 : (z_cd zm163).all (z_okE ztb znw zcls zms zm163) = true := by decide +kernel
theorem zp163 : z_okP ztb znw zcls zms zm163 := z_okP_of 10087 10086 88 1012 (z_codeIn (ch := 10) (i := 87) (l := tables_1_10) rfl rfl) (by decide +kernel) zq163
theorem zq164 : (z_cd zm164).all (z_okE ztb znw zcls zms zm164) = true := by decide +kernel
theorem zp164 : z_okP ztb znw zcls zms zm164 := z_okP_of 10083 10081 10082 1012 (z_codeIn (ch := 10) (i := 83) (l := tables_1_10) rfl rfl) (by decide +kernel) zq164
theorem zq165 : (z_cd zm165).all (z_okE ztb znw zcls zms zm165) = true := by decide +kernel
theorem zp165 : z_okP ztb znw zcls zms zm165 := z_okP_of 11123 11121 11122 1012 (z_codeIn (ch := 11) (i := 123) (l := tables_1_11) rfl rfl) (by decide +kernel) zq165
theorem zq166 : (z_cd zm166).all (z_okE ztb znw zcls zms zm166) = true := by decide +kernel
theorem zp166 : z_okP ztb znw zcls zms zm166 := z_okP_of 12185 12183 12184 1012 (z_codeIn (ch := 12) (i := 185) (l := tables_1_12) rfl rfl) (by decide +kernel) zq166
theorem zq167 : (z_cd zm167).all (z_okE ztb znw zcls zms zm167) = true := by decide +kernel
theorem zp167 : z_okP ztb znw zcls zms zm167 := z_okP_of 12207 12205 12206 1012 (z_codeIn (ch := 12) (i := 207) (l := tables_1_12) rfl rfl) (by decide +kernel) zq167
theorem zq168 : (z_cd zm168).all (z_okE ztb znw zcls zms zm168) = true := by decide +kernel
theorem zp168 : z_okP ztb znw zcls zms zm168 := z_okP_of 10191 10189 10190 1012 (z_codeIn (ch := 10) (i := 191) (l := tables_1_10) rfl rfl) (by decide +kernel) zq168
theorem zq169 : (z_cd zm169).all (z_okE ztb znw zcls zms zm169) = true := by decide +kernel
theorem zp169 : z_okP ztb znw zcls zms zm169 := z_okP_of 11119 11117 11118 1012 (z_codeIn (ch := 11) (i := 119) (l := tables_1_11) rfl rfl) (by decide +kernel) zq169
theorem zq170 : (z_cd zm170).all (z_okE ztb znw zcls zms zm170) = true := by decide +kernel
theorem zp170 : z_okP ztb znw zcls zms zm170 := z_okP_of 12085 12084 176 1012 (z_codeIn (ch := 12) (i := 85) (l := tables_1_12) rfl rfl) (by decide +kernel) zq170
theorem zq171 : (z_cd zm171).all (z_okE ztb znw zcls zms zm171) = true := by decide +kernel
theorem zp171 : z_okP ztb znw zcls zms zm171 := z_okP_of 12081 12079 12080 1012 (z_codeIn (ch := 12) (i := 81) (l := tables_1_12) rfl rfl) (by decide +kernel) zq171
theorem zq172 : (z_cd zm172).all (z_okE ztb znw zcls zms zm172) = true := by decide +kernel
theorem zp172 : z_okP ztb znw zcls zms zm172 := z_okP_of 10211 10209 10210 1012 (z_codeIn (ch := 10) (i := 211) (l := tables_1_10) rfl rfl) (by decide +kernel) zq172
theorem zq173 : (z_cd zm173).all (z_okE ztb znw zcls zms zm173) = true := by decide +kernel
theorem zp173 : z_okP ztb znw zcls zms zm173 := z_okP_of 11131 11129 11130 1012 (z_codeIn (ch := 11) (i := 131) (l := tables_1_11) rfl rfl) (by decide +kernel) zq173
theorem zq174 : (z_cd zm174).all (z_okE ztb znw zcls zms zm174) = true := by decide +kernel
theorem zp174 : z_okP ztb znw zcls zms zm174 := z_okP_of 10223 10221 10222 1012 (z_codeIn (ch := 10) (i := 223) (l := tables_1_10) rfl rfl) (by decide +kernel) zq174
theorem zq175 : (z_cd zm175).all (z_okE ztb znw zcls zms zm175) = true := by decide +kernel
theorem zp175 : z_okP ztb znw zcls zms zm175 := z_okP_of 10219 10217 10218 1012 (z_codeIn (ch := 10) (i := 219) (l := tables_1_10) rfl rfl) (by decide +kernel) zq175
theorem zq176 : (z_cd zm176).all (z_okE ztb znw zcls zms zm176) = true := by decide +kernel
theorem zp176 : z_okP ztb znw zcls zms zm176 := z_okP_of 12145 12143 12144 1012 (z_codeIn (ch := 12) (i := 145) (l := tables_1_12) rfl rfl) (by decide +kernel) zq176
theorem zq177 : (z_cd zm177).all (z_okE ztb znw zcls zms zm177) = true := by decide +kernel
theorem zp177 : z_okP ztb znw zcls zms zm177 := z_okP_of 10195 10193 10194 1012 (z_codeIn (ch := 10) (i := 195) (l := tables_1_10) rfl rfl) (by decide +kernel) zq177
theorem zq178 : (z_cd zm178).all (z_okE ztb znw zcls zms zm178) = true := by decide +kernel
theorem zp178 : z_okP ztb znw zcls zms zm178 := z_okP_of 11019 11017 11018 1012 (z_codeIn (ch := 11) (i := 19) (l := tables_1_11) rfl rfl) (by decide +kernel) zq178
theorem zq179 : (z_cd zm179).all (z_okE ztb znw zcls zms zm179) = true := by decide +kernel
theorem zp179 : z_okP ztb znw zcls zms zm179 := z_okP_of 10203 10201 10202 1012 (z_codeIn (ch := 10) (i := 203) (l := tables_1_10) rfl rfl) (by decide +kernel) zq179
theorem zq180 : (z_cd zm180).all (z_okE ztb znw zcls zms zm180) = true := by decide +kernel
theorem zp180 : z_okP ztb znw zcls zms zm180 := z_okP_of 11192 11190 11191 1012 (z_codeIn (ch := 11) (i := 192) (l := tables_1_11) rfl rfl) (by decide +kernel) zq180
theorem zq181 : (z_cd zm181).all (z_okE ztb znw zcls zms zm181) = true := by decide +kernel
theorem zp181 : z_okP ztb znw zcls zms zm181 := z_okP_of 12109 12107 12108 1012 (z_codeIn (ch := 12) (i := 109) (l := tables_1_12) rfl rfl) (by decide +kernel) zq181
theorem zq182 : (z_cd zm182).all (z_okE ztb znw zcls zms zm182) = true := by decide +kernel
theorem zp182 : z_okP ztb znw zcls zms zm182 := z_okP_of 12141 12139 12140 1012 (z_codeIn (ch := 12) (i := 141) (l := tables_1_12) rfl rfl) (by decide +kernel) zq182
theorem zq183 : (z_cd zm183).all (z_okE ztb znw zcls zms zm183) = true := by decide +kernel
theorem zp183 : z_okP ztb znw zcls zms zm183 := z_okP_of 12149 12147 12148 1012 (z_codeIn (ch := 12) (i := 149) (l := tables_1_12) rfl rfl) (by decide +kernel) zq183
theorem zq184_0 : (((z_cd zm184).drop 0).take 40).all (z_okE ztb znw zcls zms zm184) = true := by decide +kernel
theorem zq184_1 : (((z_cd zm184).drop 40).take 40).all (z_okE ztb znw zcls zms zm184) = true := by decide +kernel
theorem zq184_e2 : ((z_cd zm184).drop 80).all (z_okE ztb znw zcls zms zm184) = true := z_seg_end (by decide +kernel)
theorem zq184_e1 : ((z_cd zm184).drop 40).all (z_okE ztb znw zcls zms zm184) = true := z_seg (a := 40) (k := 40) zq184_1 zq184_e2
theorem zq184_e0 : ((z_cd zm184).drop 0).all (z_okE ztb znw zcls zms zm184) = true := z_seg (a := 0) (k := 40) zq184_0 zq184_e1
theorem zq184 : (z_cd zm184).all (z_okE ztb znw zcls zms zm184) = true := z_seg0 zq184_e0
theorem zp184 : z_okP ztb znw zcls zms zm184 := z_okP_of 12101 12099 12100 1012 (z_codeIn (ch := 12) (i := 101) (l := tables_1_12) rfl rfl) (by decide +kernel) zq184
theorem zq185 : (z_cd zm185).all (z_okE ztb znw zcls zms zm185) = true := by decide +kernel
theorem zp185 : z_okP ztb znw zcls zms zm185 := z_okP_of 11228 11226 11227 1012 (z_codeIn (ch := 11) (i := 228) (l := tables_1_11) rfl rfl) (by decide +kernel) zq185
end
section
theorem zq186 : (z_cd zm186).all (z_okE ztb znw zcls zms zm186) = true := by decide +kernel
theorem zp186 : z_okP ztb znw zcls zms zm186 := z_okP_of 11200 11198 11199 1012 (z_codeIn (ch := 11) (i := 200) (l := tables_1_11) rfl rfl) (by decide +kernel) zq186
theorem zq187 : (z_cd zm187).all (z_okE ztb znw zcls zms zm187) = true := by decide +kernel
theorem zp187 : z_okP ztb znw zcls zms zm187 := z_okP_of 11224 11222 11223 1012 (z_codeIn (ch := 11) (i := 224) (l := tables_1_11) rfl rfl) (by decide +kernel) zq187
theorem zq188 : (z_cd zm188).all (z_okE ztb znw zcls zms zm188) = true := by decide +kernel
theorem zp188 : z_okP ztb znw zcls zms zm188 := z_okP_of 13002 13000 13001 1012 (z_codeIn (ch := 13) (i := 2) (l := tables_1_13) rfl rfl) (by decide +kernel) zq188
theorem zq189 : (z_cd zm189).all (z_okE ztb znw zcls zms zm189) = true := by decide +kernel
theorem zp189 : z_okP ztb znw zcls zms zm189 := z_okP_of 11007 11005 11006 1012 (z_codeIn (ch := 11) (i := 7) (l := tables_1_11) rfl rfl) (by decide +kernel) zq189
end
section
theorem zpa_0 : ∀ cm ∈ [zm0, zm1, zm2, zm3, zm4, zm5, zm6, zm7, zm8, zm9, zm10, zm11, zm12, zm13, zm14, zm15], z_okP ztb znw zcls zms cm := List.forall_mem_cons.mpr ⟨zp0, List.forall_mem_cons.mpr ⟨zp1, List.forall_mem_cons.mpr ⟨zp2, List.forall_mem_cons.mpr ⟨zp3, List.forall_mem_cons.mpr ⟨zp4, List.forall_mem_cons.mpr ⟨zp5, List.forall_mem_cons.mpr ⟨zp6, List.forall_mem_cons.mpr ⟨zp7, List.forall_mem_cons.mpr ⟨zp8, List.forall_mem_cons.mpr ⟨zp9, List.forall_mem_cons.mpr ⟨zp10, List.forall_mem_cons.mpr ⟨zp11, List.forall_mem_cons.mpr ⟨zp12, List.forall_mem_cons.mpr ⟨zp13, List.forall_mem_cons.mpr ⟨zp14, List.forall_mem_cons.mpr ⟨zp15, fun _ h => absurd h List.not_mem_nil⟩⟩⟩⟩⟩⟩⟩⟩⟩⟩⟩⟩⟩⟩⟩⟩
theorem zpa_1 : ∀ cm ∈ [zm16, zm17, zm18, zm19, zm20, zm21, zm22, zm23, zm24, zm25, zm26, zm27, zm28, zm29, zm30, zm31], z_okP ztb znw zcls zms cm := List.forall_mem_cons.mpr ⟨zp16, List.forall_mem_cons.mpr ⟨zp17, List.forall_mem_cons.mpr ⟨zp18, List.forall_mem_cons.mpr ⟨zp19, List.forall_mem_cons.mpr ⟨zp20, List.forall_mem_cons.mpr ⟨zp21, List.forall_mem_cons.mpr ⟨zp22, List.forall_mem_cons.mpr ⟨zp23, List.forall_mem_cons.mpr ⟨zp24, List.forall_mem_cons.mpr ⟨zp25, List.forall_mem_cons.mpr ⟨zp26, List.forall_mem_cons.mpr ⟨zp27, List.forall_mem_cons.mpr ⟨zp28, List.forall_mem_cons.mpr ⟨zp29, List.forall_mem_cons.mpr ⟨zp30, List.forall_mem_cons.mpr ⟨zp31, fun _ h => absurd h List.not_mem_nil⟩⟩⟩⟩⟩⟩⟩⟩⟩⟩⟩⟩⟩⟩⟩⟩
theorem zpa_2 : ∀ cm ∈ [zm32, zm33, zm34, zm35, zm36, zm37, zm38, zm39, zm40, zm41, zm42, zm43, zm44, zm45, zm46, zm47], z_okP ztb znw zcls zms cm := List.forall_mem_cons.mpr ⟨zp32, List.forall_mem_cons.mpr ⟨zp33, List.forall_mem_cons.mpr ⟨zp34, List.forall_mem_cons.mpr ⟨zp35, List.forall_mem_cons.mpr ⟨zp36, List.forall_mem_cons.mpr ⟨zp37, List.forall_mem_cons.mpr ⟨zp38, List.forall_mem_cons.mpr ⟨zp39, List.forall_mem_cons.mpr ⟨zp40, List.forall_mem_cons.mpr ⟨zp41, List.forall_mem_cons.mpr ⟨zp42, List.forall_mem_cons.mpr ⟨zp43, List.forall_mem_cons.mpr ⟨zp44, List.forall_mem_cons.mpr ⟨zp45, List.forall_mem_cons.mpr ⟨zp46, List.forall_mem_cons.mpr ⟨zp47, fun _ h => absurd h List.not_mem_nil⟩⟩⟩⟩⟩⟩⟩⟩⟩⟩⟩⟩⟩⟩⟩⟩
theorem zpa_3 : ∀ cm ∈ [zm48, zm49, zm50, zm51, zm52, zm53, zm54, zm55, zm56, zm57, zm58, zm59, zm60, zm61, zm62, zm63], z_okP ztb znw zcls zms cm := List.forall_mem_cons.mpr ⟨zp48, List.forall_mem_cons.mpr ⟨zp49, List.forall_mem_cons.mpr ⟨zp50, List.forall_mem_cons.mpr ⟨zp51, List.forall_mem_cons.mpr ⟨zp52, List.forall_mem_cons.mpr ⟨zp53, List.forall_mem_cons.mpr ⟨zp54, List.forall_mem_cons.mpr ⟨zp55, List.forall_mem_cons.mpr ⟨zp56, List.forall_mem_cons.mpr ⟨zp57, List.forall_mem_cons.mpr ⟨zp58, List.forall_mem_cons.mpr ⟨zp59, List.forall_mem_cons.mpr ⟨zp60, List.forall_mem_cons.mpr ⟨zp61, List.forall_mem_cons.mpr ⟨zp62, List.forall_mem_cons.mpr ⟨zp63, fun _ h => absurd h List.not_mem_nil⟩⟩⟩⟩⟩⟩⟩⟩⟩⟩⟩⟩⟩⟩⟩⟩
theorem zpa_4 : ∀ cm ∈ [zm64, zm65, zm66, zm67, zm68, zm69, zm70, zm71, zm72, zm73, zm74, zm75, zm76, zm77, zm78, zm79], z_okP ztb znw zcls zms cm := List.forall_mem_cons.mpr ⟨zp64, List.forall_mem_cons.mpr ⟨zp65, List.forall_mem_cons.mpr ⟨zp66, List.forall_mem_cons.mpr ⟨zp67, List.forall_mem_cons.mpr ⟨zp68, List.forall_mem_cons.mpr ⟨zp69, List.forall_mem_cons.mpr ⟨zp70, List.forall_mem_cons.mpr ⟨zp71, List.forall_mem_cons.mpr ⟨zp72, List.forall_mem_cons.mpr ⟨zp73, List.forall_mem_cons.mpr ⟨zp74, List.forall_mem_cons.mpr ⟨zp75, List.forall_mem_cons.mpr ⟨zp76, List.forall_mem_cons.mpr ⟨zp77, List.forall_mem_cons.mpr ⟨zp78, List.forall_mem_cons.mpr ⟨zp79, fun _ h => absurd h List.not_mem_nil⟩⟩⟩⟩⟩⟩⟩⟩⟩⟩⟩⟩⟩⟩⟩⟩
theorem zpa_5 : ∀ cm ∈ [zm80, zm81, zm82, zm83, zm84, zm85, zm86, zm87, zm88, zm89, zm90, zm91, zm92, zm93, zm94, zm95], z_okP ztb znw zcls zms cm := List.forall_mem_cons.mpr ⟨zp80, List.forall_mem_cons.mpr ⟨zp81, List.forall_mem_cons.mpr ⟨zp82, List.forall_mem_cons.mpr ⟨zp83, List.forall_mem_cons.mpr ⟨zp84, List.forall_mem_cons.mpr ⟨zp85, List.forall_mem_cons.mpr ⟨zp86, List.forall_mem_cons.mpr ⟨zp87, List.forall_mem_cons.mpr ⟨zp88, List.forall_mem_cons.mpr ⟨zp89, List.forall_mem_cons.mpr ⟨zp90, List.forall_mem_cons.mpr ⟨zp91, List.forall_mem_cons.mpr ⟨zp92, List.forall_mem_cons.mpr ⟨zp93, List.forall_mem_cons.mpr ⟨zp94, List.forall_mem_cons.mpr ⟨zp95, fun _ h => absurd h List.not_mem_nil⟩⟩⟩⟩⟩⟩⟩⟩⟩⟩⟩⟩⟩⟩⟩⟩
theorem zpa_6 : ∀ cm ∈ [zm96, zm97, zm98, zm99, zm100, zm101, zm102, zm103, zm104, zm105, zm106, zm107, zm108, zm109, zm110, zm111], z_okP ztb znw zcls zms cm := List.forall_mem_cons.mpr ⟨zp96, List.forall_mem_cons.mpr ⟨zp97, List.forall_mem_cons.mpr ⟨zp98, List.forall_mem_cons.mpr ⟨zp99, List.forall_mem_cons.mpr ⟨zp100, List.forall_mem_cons.mpr ⟨zp101, List.forall_mem_cons.mpr ⟨zp102, List.forall_mem_cons.mpr ⟨zp103, List.forall_mem_cons.mpr ⟨zp104, List.forall_mem_cons.mpr ⟨zp105, List.forall_mem_cons.mpr ⟨zp106, List.forall_mem_cons.mpr ⟨zp107, List.forall_mem_cons.mpr ⟨zp108, List.forall_mem_cons.mpr ⟨zp109, List.forall_mem_cons.mpr ⟨zp110, List.forall_mem_cons.mpr ⟨zp111, fun _ h => absurd h List.not_mem_nil⟩⟩⟩⟩⟩⟩⟩⟩⟩⟩⟩⟩⟩⟩⟩⟩
theorem zpa_7 : ∀ cm ∈ [zm112, zm113, zm114, zm115, zm116, zm117, zm118, zm119, zm120, zm121, zm122, zm123, zm124, zm125, zm126, zm127], z_okP ztb znw zcls zms cm := List.forall_mem_cons.mpr ⟨zp112, List.forall_mem_cons.mpr ⟨zp113, List.forall_mem_cons.mpr ⟨zp114, List.forall_mem_cons.mpr ⟨zp115, List.forall_mem_cons.mpr ⟨zp116, List.forall_mem_cons.mpr ⟨zp117, List.forall_mem_cons.mpr ⟨zp118, List.forall_mem_cons.mpr ⟨zp119, List.forall_mem_cons.mpr ⟨zp120, List.forall_mem_cons.mpr ⟨zp121, List.forall_mem_cons.mpr ⟨zp122, List.forall_mem_cons.mpr ⟨zp123, List.forall_mem_cons.mpr ⟨zp124, List.forall_mem_cons.mpr ⟨zp125, List.forall_mem_cons.mpr ⟨zp126, List.forall_mem_cons.mpr ⟨zp127, fun _ h => absurd h List.not_mem_nil⟩⟩⟩⟩⟩⟩⟩⟩⟩⟩⟩⟩⟩⟩⟩⟩
theorem zpa_8 : ∀ cm ∈ [zm128, zm129, zm130, zm131, zm132, zm133, zm134, zm135, zm136, zm137, zm138, zm139, zm140, zm141, zm142, zm143], z_okP ztb znw zcls zms cm := List.forall_mem_cons.mpr ⟨zp128, List.forall_mem_cons.mpr ⟨zp129, List.forall_mem_cons.mpr ⟨zp130, List.forall_mem_cons.mpr ⟨zp131, List.forall_mem_cons.mpr ⟨zp132, List.forall_mem_cons.mpr ⟨zp133, List.forall_mem_cons.mpr ⟨zp134, List.forall_mem_cons.mpr ⟨zp135, List.forall_mem_cons.mpr ⟨zp136, List.forall_mem_cons.mpr ⟨zp137, List.forall_mem_cons.mpr ⟨zp138, List.forall_mem_cons.mpr ⟨zp139, List.forall_mem_cons.mpr ⟨zp140, List.forall_mem_cons.mpr ⟨zp141, List.forall_mem_cons.mpr ⟨zp142, List.forall_mem_cons.mpr ⟨zp143, fun _ h => absurd h List.not_mem_nil⟩⟩⟩⟩⟩⟩⟩⟩⟩⟩⟩⟩⟩⟩⟩⟩
theorem zpa_9 : ∀ cm ∈ [zm144, zm145, zm146, zm147, zm148, zm149, zm150, zm151, zm152, zm153, zm154, zm155, zm156, zm157, zm158, zm159], z_okP ztb znw zcls zms cm := List.forall_mem_cons.mpr ⟨zp144, List.forall_mem_cons.mpr ⟨zp145, List.forall_mem_cons.mpr ⟨zp146, List.forall_mem_cons.mpr ⟨zp147, List.forall_mem_cons.mpr ⟨zp148, List.forall_mem_cons.mpr ⟨zp149, List.forall_mem_cons.mpr ⟨zp150, List.forall_mem_cons.mpr ⟨zp151, List.forall_mem_cons.mpr ⟨zp152, List.forall_mem_cons.mpr ⟨zp153, List.forall_mem_cons.mpr ⟨zp154, List.forall_mem_cons.mpr ⟨zp155, List.forall_mem_cons.mpr ⟨zp156, List.forall_mem_cons.mpr ⟨zp157, List.forall_mem_cons.mpr ⟨zp158, List.forall_mem_cons.mpr ⟨zp159, fun _ h => absurd h List.not_mem_nil⟩⟩⟩⟩⟩⟩⟩⟩⟩⟩⟩⟩⟩⟩⟩⟩
theorem zpa_10 : ∀ cm ∈ [zm160, zm161, zm162, zm163, zm164, zm165, zm166, zm167, zm168, zm169, zm170, zm171, zm172, zm173, zm174, zm175], z_okP ztb znw zcls zms cm := List.forall_mem_cons.mpr ⟨zp160, List.forall_mem_cons.mpr ⟨zp161, List.forall_mem_cons.mpr ⟨zp162, List.forall_mem_cons.mpr ⟨zp163, List.forall_mem_cons.mpr ⟨zp164, List.forall_mem_cons.mpr ⟨zp165, List.forall_mem_cons.mpr ⟨zp166, List.forall_mem_cons.mpr ⟨zp167, List.forall_mem_cons.mpr ⟨zp168, List.forall_mem_cons.mpr ⟨zp169, List.forall_mem_cons.mpr ⟨zp170, List.forall_mem_cons.mpr ⟨zp171, List.forall_mem_cons.mpr ⟨zp172, List.forall_mem_cons.mpr ⟨zp173, List.forall_mem_cons.mpr ⟨zp174, List.forall_mem_cons.mpr ⟨zp175, fun _ h => absurd h List.not_mem_nil⟩⟩⟩⟩⟩⟩⟩⟩⟩⟩⟩⟩⟩⟩⟩⟩
theorem zpa_11 : ∀ cm ∈ [zm176, zm177, zm178, zm179, zm180, zm181, zm182, zm183, zm184, zm185, zm186, zm187, zm188, zm189], z_okP ztb znw zcls zms cm := List.forall_mem_cons.mpr ⟨zp176, List.forall_mem_cons.mpr ⟨zp177, List.forall_mem_cons.mpr ⟨zp178, List.forall_mem_cons.mpr ⟨zp179, List.forall_mem_cons.mpr ⟨zp180, List.forall_mem_cons.mpr ⟨zp181, List.forall_mem_cons.mpr ⟨zp182, List.forall_mem_cons.mpr ⟨zp183, List.forall_mem_cons.mpr ⟨zp184, List.forall_mem_cons.mpr ⟨zp185, List.forall_mem_cons.mpr ⟨zp186, List.forall_mem_cons.mpr ⟨zp187, List.forall_mem_cons.mpr ⟨zp188, List.forall_mem_cons.mpr ⟨zp189, fun _ h => absurd h List.not_mem_nil⟩⟩⟩⟩⟩⟩⟩⟩⟩⟩⟩⟩⟩⟩
set_option maxRecDepth 100000 in
theorem zms_split : zms = [zm0, zm1, zm2, zm3, zm4, zm5, zm6, zm7, zm8, zm9, zm10, zm11, zm12, zm13, zm14, zm15] ++ ([zm16, zm17, zm18, zm19, zm20, zm21, zm22, zm23, zm24, zm25, zm26, zm27, zm28, zm29, zm30, zm31] ++ ([zm32, zm33, zm34, zm35, zm36, zm37, zm38, zm39, zm40, zm41, zm42, zm43, zm44, zm45, zm46, zm47] ++ ([zm48, zm49, zm50, zm51, zm52, zm53, zm54, zm55, zm56, zm57, zm58, zm59, zm60, zm61, zm62, zm63] ++ ([zm64, zm65, zm66, zm67, zm68, zm69, zm70, zm71, zm72, zm73, zm74, zm75, zm76, zm77, zm78, zm79] ++ ([zm80, zm81, zm82, zm83, zm84, zm85, zm86, zm87, zm88, zm89, zm90, zm91, zm92, zm93, zm94, zm95] ++ ([zm96, zm97, zm98, zm99, zm100, zm101, zm102, zm103, zm104, zm105, zm106, zm107, zm108, zm109, zm110, zm111] ++ ([zm112, zm113, zm114, zm115, zm116, zm117, zm118, zm119, zm120, zm121, zm122, zm123, zm124, zm125, zm126, zm127] ++ ([zm128, zm129, zm130, zm131, zm132, zm133, zm134, zm135, zm136, zm137, zm138, zm139, zm140, zm141, zm142, zm143] ++ ([zm144, zm145, zm146, zm147, zm148, zm149, zm150, zm151, zm152, zm153, zm154, zm155, zm156, zm157, zm158, zm159] ++ ([zm160, zm161, zm162, zm163, zm164, zm165, zm166, zm167, zm168, zm169, zm170, zm171, zm172, zm173, zm174, zm175] ++ ([zm176, zm177, zm178, zm179, zm180, zm181, zm182, zm183, zm184, zm185, zm186, zm187, zm188, zm189]))))))))))) := by
  simp only [zms, List.cons_append, List.nil_append]
theorem zp_all : ∀ cm ∈ zms, z_okP ztb znw zcls zms cm := by
  rw [zms_split]
  exact List.forall_mem_append.mpr ⟨zpa_0, List.forall_mem_append.mpr ⟨zpa_1, List.forall_mem_append.mpr ⟨zpa_2, List.forall_mem_append.mpr ⟨zpa_3, List.forall_mem_append.mpr ⟨zpa_4, List.forall_mem_append.mpr ⟨zpa_5, List.forall_mem_append.mpr ⟨zpa_6, List.forall_mem_append.mpr ⟨zpa_7, List.forall_mem_append.mpr ⟨zpa_8, List.forall_mem_append.mpr ⟨zpa_9, List.forall_mem_append.mpr ⟨zpa_10, zpa_11⟩⟩⟩⟩⟩⟩⟩⟩⟩⟩⟩
theorem zAll : z_All ztb znw zcls zzty zzdv zms := ⟨zCF, ⟨zA_int, zA_byte, zA_boolean, zA_long⟩, ⟨zO_1, zO_2⟩, fun n cm h => zp_all cm (List.mem_of_getElem? h)⟩
theorem znw_in : ∀ c ∈ znw, c ∈ ztb.flatten := by
  have h : (znw.zip [1032, 1038, 1126, 2020, 2118, 3042, 5104, 5105, 5116, 5173, 5207, 6008, 6018, 6205, 7075, 7230, 8041]).all (fun q => z_w0 ztb q.2 q.1) = true := by decide +kernel
  intro c hc
  obtain ⟨n, hn⟩ : ∃ n, (c, n) ∈ znw.zip [1032, 1038, 1126, 2020, 2118, 3042, 5104, 5105, 5116, 5173, 5207, 6008, 6018, 6205, 7075, 7230, 8041] := by
    obtain ⟨i, hi, rfl⟩ := List.mem_iff_getElem.mp hc
    exact ⟨_, List.mem_iff_getElem.mpr ⟨i, by simpa [znw] using hi, by rw [List.getElem_zip]⟩⟩
  exact z_w0_ok (List.all_eq_true.mp h _ hn)
end
section
theorem zlaw_all_0 : (((z_cd zmL).drop 0).take 40).all (z_okE ztb znw zcls zms zmL) = true := by decide +kernel
theorem zlaw_all_1 : (((z_cd zmL).drop 40).take 40).all (z_okE ztb znw zcls zms zmL) = true := by decide +kernel
theorem zlaw_all_2 : (((z_cd zmL).drop 80).take 40).all (z_okE ztb znw zcls zms zmL) = true := by decide +kernel
theorem zlaw_all_3 : (((z_cd zmL).drop 120).take 40).all (z_okE ztb znw zcls zms zmL) = true := by decide +kernel
theorem zlaw_all_4 : (((z_cd zmL).drop 160).take 40).all (z_okE ztb znw zcls zms zmL) = true := by decide +kernel
theorem zlaw_all_5 : (((z_cd zmL).drop 200).take 40).all (z_okE ztb znw zcls zms zmL) = true := by decide +kernel
theorem zlaw_all_6 : (((z_cd zmL).drop 240).take 40).all (z_okE ztb znw zcls zms zmL) = true := by decide +kernel
theorem zlaw_all_7 : (((z_cd zmL).drop 280).take 40).all (z_okE ztb znw zcls zms zmL) = true := by decide +kernel
theorem zlaw_all_8 : (((z_cd zmL).drop 320).take 40).all (z_okE ztb znw zcls zms zmL) = true := by decide +kernel
theorem zlaw_all_9 : (((z_cd zmL).drop 360).take 40).all (z_okE ztb znw zcls zms zmL) = true := by decide +kernel
theorem zlaw_all_10 : (((z_cd zmL).drop 400).take 40).all (z_okE ztb znw zcls zms zmL) = true := by decide +kernel
theorem zlaw_all_11 : (((z_cd zmL).drop 440).take 40).all (z_okE ztb znw zcls zms zmL) = true := by decide +kernel
theorem zlaw_all_12 : (((z_cd zmL).drop 480).take 40).all (z_okE ztb znw zcls zms zmL) = true := by decide +kernel
theorem zlaw_all_13 : (((z_cd zmL).drop 520).take 40).all (z_okE ztb znw zcls zms zmL) = true := by decide +kernel
theorem zlaw_all_14 : (((z_cd zmL).drop 560).take 40).all (z_okE ztb znw zcls zms zmL) = true := by decide +kernel
theorem zlaw_all_15 : (((z_cd zmL).drop 600).take 40).all (z_okE ztb znw zcls zms zmL) = true := by decide +kernel
theorem zlaw_all_16 : (((z_cd zmL).drop 640).take 40).all (z_okE ztb znw zcls zms zmL) = true := by decide +kernel
theorem zlaw_all_17 : (((z_cd zmL).drop 680).take 40).all (z_okE ztb znw zcls zms zmL) = true := by decide +kernel
theorem zlaw_all_18 : (((z_cd zmL).drop 720).take 40).all (z_okE ztb znw zcls zms zmL) = true := by decide +kernel
theorem zlaw_all_19 : (((z_cd zmL).drop 760).take 40).all (z_okE ztb znw zcls zms zmL) = true := by decide +kernel
theorem zlaw_all_20 : (((z_cd zmL).drop 800).take 40).all (z_okE ztb znw zcls zms zmL) = true := by decide +kernel
theorem zlaw_all_21 : (((z_cd zmL).drop 840).take 40).all (z_okE ztb znw zcls zms zmL) = true := by decide +kernel
theorem zlaw_all_22 : (((z_cd zmL).drop 880).take 40).all (z_okE ztb znw zcls zms zmL) = true := by decide +kernel
theorem zlaw_all_23 : (((z_cd zmL).drop 920).take 40).all (z_okE ztb znw zcls zms zmL) = true := by decide +kernel
theorem zlaw_all_24 : (((z_cd zmL).drop 960).take 40).all (z_okE ztb znw zcls zms zmL) = true := by decide +kernel
theorem zlaw_all_25 : (((z_cd zmL).drop 1000).take 40).all (z_okE ztb znw zcls zms zmL) = true := by decide +kernel
theorem zlaw_all_26 : (((z_cd zmL).drop 1040).take 40).all (z_okE ztb znw zcls zms zmL) = true := by decide +kernel
theorem zlaw_all_27 : (((z_cd zmL).drop 1080).take 40).all (z_okE ztb znw zcls zms zmL) = true := by decide +kernel
theorem zlaw_all_28 : (((z_cd zmL).drop 1120).take 40).all (z_okE ztb znw zcls zms zmL) = true := by decide +kernel
theorem zlaw_all_e29 : ((z_cd zmL).drop 1160).all (z_okE ztb znw zcls zms zmL) = true := z_seg_end (by decide +kernel)
theorem zlaw_all_e28 : ((z_cd zmL).drop 1120).all (z_okE ztb znw zcls zms zmL) = true := z_seg (a := 1120) (k := 40) zlaw_all_28 zlaw_all_e29
theorem zlaw_all_e27 : ((z_cd zmL).drop 1080).all (z_okE ztb znw zcls zms zmL) = true := z_seg (a := 1080) (k := 40) zlaw_all_27 zlaw_all_e28
theorem zlaw_all_e26 : ((z_cd zmL).drop 1040).all (z_okE ztb znw zcls zms zmL) = true := z_seg (a := 1040) (k := 40) zlaw_all_26 zlaw_all_e27
theorem zlaw_all_e25 : ((z_cd zmL).drop 1000).all (z_okE ztb znw zcls zms zmL) = true := z_seg (a := 1000) (k := 40) zlaw_all_25 zlaw_all_e26
theorem zlaw_all_e24 : ((z_cd zmL).drop 960).all (z_okE ztb znw zcls zms zmL) = true := z_seg (a := 960) (k := 40) zlaw_all_24 zlaw_all_e25
theorem zlaw_all_e23 : ((z_cd zmL).drop 920).all (z_okE ztb znw zcls zms zmL) = true := z_seg (a := 920) (k := 40) zlaw_all_23 zlaw_all_e24
theorem zlaw_all_e22 : ((z_cd zmL).drop 880).all (z_okE ztb znw zcls zms zmL) = true := z_seg (a := 880) (k := 40) zlaw_all_22 zlaw_all_e23
theorem zlaw_all_e21 : ((z_cd zmL).drop 840).all (z_okE ztb znw zcls zms zmL) = true := z_seg (a := 840) (k := 40) zlaw_all_21 zlaw_all_e22
theorem zlaw_all_e20 : ((z_cd zmL).drop 800).all (z_okE ztb znw zcls zms zmL) = true := z_seg (a := 800) (k := 40) zlaw_all_20 zlaw_all_e21
theorem zlaw_all_e19 : ((z_cd zmL).drop 760).all (z_okE ztb znw zcls zms zmL) = true := z_seg (a := 760) (k := 40) zlaw_all_19 zlaw_all_e20
theorem zlaw_all_e18 : ((z_cd zmL).drop 720).all (z_okE ztb znw zcls zms zmL) = true := z_seg (a := 720) (k := 40) zlaw_all_18 zlaw_all_e19
theorem zlaw_all_e17 : ((z_cd zmL).drop 680).all (z_okE ztb znw zcls zms zmL) = true := z_seg (a := 680) (k := 40) zlaw_all_17 zlaw_all_e18
theorem zlaw_all_e16 : ((z_cd zmL).drop 640).all (z_okE ztb znw zcls zms zmL) = true := z_seg (a := 640) (k := 40) zlaw_all_16 zlaw_all_e17
theorem zlaw_all_e15 : ((z_cd zmL).drop 600).all (z_okE ztb znw zcls zms zmL) = true := z_seg (a := 600) (k := 40) zlaw_all_15 zlaw_all_e16
theorem zlaw_all_e14 : ((z_cd zmL).drop 560).all (z_okE ztb znw zcls zms zmL) = true := z_seg (a := 560) (k := 40) zlaw_all_14 zlaw_all_e15
theorem zlaw_all_e13 : ((z_cd zmL).drop 520).all (z_okE ztb znw zcls zms zmL) = true := z_seg (a := 520) (k := 40) zlaw_all_13 zlaw_all_e14
theorem zlaw_all_e12 : ((z_cd zmL).drop 480).all (z_okE ztb znw zcls zms zmL) = true := z_seg (a := 480) (k := 40) zlaw_all_12 zlaw_all_e13
theorem zlaw_all_e11 : ((z_cd zmL).drop 440).all (z_okE ztb znw zcls zms zmL) = true := z_seg (a := 440) (k := 40) zlaw_all_11 zlaw_all_e12
theorem zlaw_all_e10 : ((z_cd zmL).drop 400).all (z_okE ztb znw zcls zms zmL) = true := z_seg (a := 400) (k := 40) zlaw_all_10 zlaw_all_e11
theorem zlaw_all_e9 : ((z_cd zmL).drop 360).all (z_okE ztb znw zcls zms zmL) = true := z_seg (a := 360) (k := 40) zlaw_all_9 zlaw_all_e10
theorem zlaw_all_e8 : ((z_cd zmL).drop 320).all (z_okE ztb znw zcls zms zmL) = true := z_seg (a := 320) (k := 40) zlaw_all_8 zlaw_all_e9
theorem zlaw_all_e7 : ((z_cd zmL).drop 280).all (z_okE ztb znw zcls zms zmL) = true := z_seg (a := 280) (k := 40) zlaw_all_7 zlaw_all_e8
theorem zlaw_all_e6 : ((z_cd zmL).drop 240).all (z_okE ztb znw zcls zms zmL) = true := z_seg (a := 240) (k := 40) zlaw_all_6 zlaw_all_e7
theorem zlaw_all_e5 : ((z_cd zmL).drop 200).all (z_okE ztb znw zcls zms zmL) = true := z_seg (a := 200) (k := 40) zlaw_all_5 zlaw_all_e6
theorem zlaw_all_e4 : ((z_cd zmL).drop 160).all (z_okE ztb znw zcls zms zmL) = true := z_seg (a := 160) (k := 40) zlaw_all_4 zlaw_all_e5
theorem zlaw_all_e3 : ((z_cd zmL).drop 120).all (z_okE ztb znw zcls zms zmL) = true := z_seg (a := 120) (k := 40) zlaw_all_3 zlaw_all_e4
theorem zlaw_all_e2 : ((z_cd zmL).drop 80).all (z_okE ztb znw zcls zms zmL) = true := z_seg (a := 80) (k := 40) zlaw_all_2 zlaw_all_e3
theorem zlaw_all_e1 : ((z_cd zmL).drop 40).all (z_okE ztb znw zcls zms zmL) = true := z_seg (a := 40) (k := 40) zlaw_all_1 zlaw_all_e2
theorem zlaw_all_e0 : ((z_cd zmL).drop 0).all (z_okE ztb znw zcls zms zmL) = true := z_seg (a := 0) (k := 40) zlaw_all_0 zlaw_all_e1
theorem zlaw_all : (z_cd zmL).all (z_okE ztb znw zcls zms zmL) = true := z_seg0 zlaw_all_e0
end
section
def zE6 : zEnv := [(0, 4294967295), (0, 4294967295), (0, 4294967295), (0, 4294967295), (0, 4294967295), (0, 4294967295)]
def zw1 : List zAE := [.inl (11, [z_rf 1, z_rf 11, z_rf 19, z_rf 35, z_rf 42, z_rf 72, z_rf 79, z_rf 93, z_rf 102, z_rf 113, .inl 0, .inl 0]),
  .inl (4, [z_rf 2, z_rf 3, .inl 0, .inl 0, .inl 4294967287, .inl 0, .inl 0, .inl 0, .inl 0]),
  .inr (1, 2000, []),
  .inl (2, [.inl 0, .inl 0, z_rf 4, z_rf 5, z_rf 6, z_rf 7, z_rf 8, z_rf 9, z_rf 10]),
  .inr (0, 24, []),
  .inr (0, 24, []),
  .inr (0, 24, []),
  .inr (0, 24, []),
  .inr (0, 72, []),
  .inr (0, 72, []),
  .inr (0, 16, []),
  .inl (2, [.inl 0, .inl 0, z_rf 12, z_rf 13, z_rf 14, z_rf 15, z_rf 16, z_rf 17, z_rf 18]),
  .inr (0, 24, []),
  .inr (0, 24, []),
  .inr (0, 24, []),
  .inr (0, 24, []),
  .inr (0, 72, []),
  .inr (0, 72, []),
  .inr (0, 16, []),
  .inl (9, [z_rf 11, .inl 0, z_rf 20, z_rf 21, z_rf 22, z_rf 23, z_rf 24, z_rf 25, z_rf 26, z_rf 27, z_rf 28, z_rf 29, z_rf 30, z_rf 31, z_rf 32, z_rf 33, z_rf 34, .inl 0, .inl 0, .inl 0]),
  .inr (0, 40, []),
  .inr (0, 40, []),
  .inr (0, 40, []),
  .inr (0, 40, []),
  .inr (0, 40, []),
  .inr (0, 320, []),
  .inr (0, 680, []),
  .inr (0, 360, []),
  .inr (0, 360, []),
  .inr (0, 360, []),
  .inr (0, 40, []),
  .inr (0, 8, []),
  .inr (0, 8, []),
  .inr (0, 17, []),
  .inr (0, 17, []),
  .inl (5, [z_rf 11, z_rf 36, z_rf 37, z_rf 38, z_rf 39, z_rf 40, z_rf 41, .inl 4294967295, .inl 0, .inl 0]),
  .inr (0, 24, [.inl 4294967295, .inl 4294967295, .inl 4294967295, .inl 4294967295, .inl 4294967295, .inl 4294967295, .inl 4294967295, .inl 4294967295, .inl 4294967295, .inl 4294967295, .inl 4294967295, .inl 4294967295, .inl 4294967295, .inl 4294967295, .inl 4294967295, .inl 4294967295, .inl 4294967295, .inl 4294967295, .inl 4294967295, .inl 4294967295, .inl 4294967295, .inl 4294967295, .inl 4294967295, .inl 4294967295]),
  .inr (0, 24, [.inl 4294967295, .inl 4294967295, .inl 4294967295, .inl 4294967295, .inl 4294967295, .inl 4294967295, .inl 4294967295, .inl 4294967295, .inl 4294967295, .inl 4294967295, .inl 4294967295, .inl 4294967295, .inl 4294967295, .inl 4294967295, .inl 4294967295, .inl 4294967295, .inl 4294967295, .inl 4294967295, .inl 4294967295, .inl 4294967295, .inl 4294967295, .inl 4294967295, .inl 4294967295, .inl 4294967295]),
  .inr (0, 24, [.inl 3, .inl 3, .inl 3, .inl 3, .inl 3, .inl 3, .inl 3, .inl 3, .inl 3, .inl 3, .inl 3, .inl 3, .inl 3, .inl 3, .inl 3, .inl 3, .inl 3, .inl 3, .inl 3, .inl 3, .inl 3, .inl 3, .inl 3, .inl 3]),
  .inr (0, 24, [.inl 3, .inl 3, .inl 3, .inl 3, .inl 3, .inl 3, .inl 3, .inl 3, .inl 3, .inl 3, .inl 3, .inl 3, .inl 3, .inl 3, .inl 3, .inl 3, .inl 3, .inl 3, .inl 3, .inl 3, .inl 3, .inl 3, .inl 3, .inl 3]),
  .inr (0, 24, [.inl 0, .inl 0, .inl 0, .inl 0, .inl 0, .inl 0, .inl 0, .inl 0, .inl 0, .inl 0, .inl 0, .inl 0, .inl 0, .inl 0, .inl 0, .inl 0, .inl 0, .inl 0, .inl 0, .inl 0, .inl 0, .inl 0, .inl 0, .inl 0]),
  .inr (0, 24, [.inl 0, .inl 0, .inl 0, .inl 0, .inl 0, .inl 0, .inl 0, .inl 0, .inl 0, .inl 0, .inl 0, .inl 0, .inl 0, .inl 0, .inl 0, .inl 0, .inl 0, .inl 0, .inl 0, .inl 0, .inl 0, .inl 0, .inl 0, .inl 0]),
  .inl (8, [z_rf 19, z_rf 35, z_rf 43, z_rf 44, .inl 0, .inl 0, .inl 0, .inl 0, .inl 0, .inl 0]),
  .inr (4, 3, [z_rf 45, z_rf 54, z_rf 63]),
  .inr (0, 40, [.inl 0, .inl 0, .inl 0, .inl 0, .inl 0, .inl 0, .inl 0, .inl 0, .inl 0, .inl 0, .inl 0, .inl 0, .inl 0, .inl 0, .inl 0, .inl 0, .inl 0, .inl 0, .inl 0, .inl 0, .inl 0, .inl 0, .inl 0, .inl 0, .inl 0, .inl 0, .inl 0, .inl 0, .inl 0, .inl 0, .inl 0, .inl 0, .inl 0, .inl 0, .inl 0, .inl 0, .inl 0, .inl 0, .inl 0, .inl 0]),
  .inl (0, [z_rf 19, z_rf 35, z_rf 46, z_rf 47, z_rf 48, z_rf 49, z_rf 50, z_rf 51, z_lng, .inl 0, z_rf 52, z_rf 53, .inl 0, .inl 1]),
  .inr (0, 40, [.inl 0, .inl 0, .inl 0, .inl 0, .inl 0, .inl 0, .inl 0, .inl 0, .inl 0, .inl 0, .inl 0, .inl 0, .inl 0, .inl 0, .inl 0, .inl 0, .inl 0, .inl 0, .inl 0, .inl 0, .inl 0, .inl 0, .inl 0, .inl 0, .inl 0, .inl 0, .inl 0, .inl 0, .inl 0, .inl 0, .inl 0, .inl 0, .inl 0, .inl 0, .inl 0, .inl 0, .inl 0, .inl 0, .inl 0, .inl 0]),
  .inr (0, 40, [.inl 0, .inl 0, .inl 0, .inl 0, .inl 0, .inl 0, .inl 0, .inl 0, .inl 0, .inl 0, .inl 0, .inl 0, .inl 0, .inl 0, .inl 0, .inl 0, .inl 0, .inl 0, .inl 0, .inl 0, .inl 0, .inl 0, .inl 0, .inl 0, .inl 0, .inl 0, .inl 0, .inl 0, .inl 0, .inl 0, .inl 0, .inl 0, .inl 0, .inl 0, .inl 0, .inl 0, .inl 0, .inl 0, .inl 0, .inl 0]),
  .inr (0, 40, [.inl 0, .inl 0, .inl 0, .inl 0, .inl 0, .inl 0, .inl 0, .inl 0, .inl 0, .inl 0, .inl 0, .inl 0, .inl 0, .inl 0, .inl 0, .inl 0, .inl 0, .inl 0, .inl 0, .inl 0, .inl 0, .inl 0, .inl 0, .inl 0, .inl 0, .inl 0, .inl 0, .inl 0, .inl 0, .inl 0, .inl 0, .inl 0, .inl 0, .inl 0, .inl 0, .inl 0, .inl 0, .inl 0, .inl 0, .inl 0]),
  .inr (0, 40, [.inl 0, .inl 0, .inl 0, .inl 0, .inl 0, .inl 0, .inl 0, .inl 0, .inl 0, .inl 0, .inl 0, .inl 0, .inl 0, .inl 0, .inl 0, .inl 0, .inl 0, .inl 0, .inl 0, .inl 0, .inl 0, .inl 0, .inl 0, .inl 0, .inl 0, .inl 0, .inl 0, .inl 0, .inl 0, .inl 0, .inl 0, .inl 0, .inl 0, .inl 0, .inl 0, .inl 0, .inl 0, .inl 0, .inl 0, .inl 0]),
  .inr (2, 40, [.inl 0, .inl 0, .inl 0, .inl 0, .inl 0, .inl 0, .inl 0, .inl 0, .inl 0, .inl 0, .inl 0, .inl 0, .inl 0, .inl 0, .inl 0, .inl 0, .inl 0, .inl 0, .inl 0, .inl 0, .inl 0, .inl 0, .inl 0, .inl 0, .inl 0, .inl 0, .inl 0, .inl 0, .inl 0, .inl 0, .inl 0, .inl 0, .inl 0, .inl 0, .inl 0, .inl 0, .inl 0, .inl 0, .inl 0, .inl 0]),
  .inr (2, 40, [.inl 0, .inl 0, .inl 0, .inl 0, .inl 0, .inl 0, .inl 0, .inl 0, .inl 0, .inl 0, .inl 0, .inl 0, .inl 0, .inl 0, .inl 0, .inl 0, .inl 0, .inl 0, .inl 0, .inl 0, .inl 0, .inl 0, .inl 0, .inl 0, .inl 0, .inl 0, .inl 0, .inl 0, .inl 0, .inl 0, .inl 0, .inl 0, .inl 0, .inl 0, .inl 0, .inl 0, .inl 0, .inl 0, .inl 0, .inl 0]),
  .inr (0, 42, [.inl 0, .inl 0]),
  .inr (0, 42, []),
  .inl (0, [z_rf 19, z_rf 35, z_rf 55, z_rf 56, z_rf 57, z_rf 58, z_rf 59, z_rf 60, z_lng, .inl 0, z_rf 61, z_rf 62, .inl 0, .inl 1]),
  .inr (0, 40, [.inl 0, .inl 0, .inl 0, .inl 0, .inl 0, .inl 0, .inl 0, .inl 0, .inl 0, .inl 0, .inl 0, .inl 0, .inl 0, .inl 0, .inl 0, .inl 0, .inl 0, .inl 0, .inl 0, .inl 0, .inl 0, .inl 0, .inl 0, .inl 0, .inl 0, .inl 0, .inl 0, .inl 0, .inl 0, .inl 0, .inl 0, .inl 0, .inl 0, .inl 0, .inl 0, .inl 0, .inl 0, .inl 0, .inl 0, .inl 0]),
  .inr (0, 40, [.inl 0, .inl 0, .inl 0, .inl 0, .inl 0, .inl 0, .inl 0, .inl 0, .inl 0, .inl 0, .inl 0, .inl 0, .inl 0, .inl 0, .inl 0, .inl 0, .inl 0, .inl 0, .inl 0, .inl 0, .inl 0, .inl 0, .inl 0, .inl 0, .inl 0, .inl 0, .inl 0, .inl 0, .inl 0, .inl 0, .inl 0, .inl 0, .inl 0, .inl 0, .inl 0, .inl 0, .inl 0, .inl 0, .inl 0, .inl 0]),
  .inr (0, 40, [.inl 0, .inl 0, .inl 0, .inl 0, .inl 0, .inl 0, .inl 0, .inl 0, .inl 0, .inl 0, .inl 0, .inl 0, .inl 0, .inl 0, .inl 0, .inl 0, .inl 0, .inl 0, .inl 0, .inl 0, .inl 0, .inl 0, .inl 0, .inl 0, .inl 0, .inl 0, .inl 0, .inl 0, .inl 0, .inl 0, .inl 0, .inl 0, .inl 0, .inl 0, .inl 0, .inl 0, .inl 0, .inl 0, .inl 0, .inl 0]),
  .inr (0, 40, [.inl 0, .inl 0, .inl 0, .inl 0, .inl 0, .inl 0, .inl 0, .inl 0, .inl 0, .inl 0, .inl 0, .inl 0, .inl 0, .inl 0, .inl 0, .inl 0, .inl 0, .inl 0, .inl 0, .inl 0, .inl 0, .inl 0, .inl 0, .inl 0, .inl 0, .inl 0, .inl 0, .inl 0, .inl 0, .inl 0, .inl 0, .inl 0, .inl 0, .inl 0, .inl 0, .inl 0, .inl 0, .inl 0, .inl 0, .inl 0]),
  .inr (2, 40, [.inl 0, .inl 0, .inl 0, .inl 0, .inl 0, .inl 0, .inl 0, .inl 0, .inl 0, .inl 0, .inl 0, .inl 0, .inl 0, .inl 0, .inl 0, .inl 0, .inl 0, .inl 0, .inl 0, .inl 0, .inl 0, .inl 0, .inl 0, .inl 0, .inl 0, .inl 0, .inl 0, .inl 0, .inl 0, .inl 0, .inl 0, .inl 0, .inl 0, .inl 0, .inl 0, .inl 0, .inl 0, .inl 0, .inl 0, .inl 0]),
  .inr (2, 40, [.inl 0, .inl 0, .inl 0, .inl 0, .inl 0, .inl 0, .inl 0, .inl 0, .inl 0, .inl 0, .inl 0, .inl 0, .inl 0, .inl 0, .inl 0, .inl 0, .inl 0, .inl 0, .inl 0, .inl 0, .inl 0, .inl 0, .inl 0, .inl 0, .inl 0, .inl 0, .inl 0, .inl 0, .inl 0, .inl 0, .inl 0, .inl 0, .inl 0, .inl 0, .inl 0, .inl 0, .inl 0, .inl 0, .inl 0, .inl 0]),
  .inr (0, 42, [.inl 0, .inl 0]),
  .inr (0, 42, []),
  .inl (0, [z_rf 19, z_rf 35, z_rf 64, z_rf 65, z_rf 66, z_rf 67, z_rf 68, z_rf 69, z_lng, .inl 0, z_rf 70, z_rf 71, .inl 0, .inl 1]),
  .inr (0, 40, [.inl 0, .inl 0, .inl 0, .inl 0, .inl 0, .inl 0, .inl 0, .inl 0, .inl 0, .inl 0, .inl 0, .inl 0, .inl 0, .inl 0, .inl 0, .inl 0, .inl 0, .inl 0, .inl 0, .inl 0, .inl 0, .inl 0, .inl 0, .inl 0, .inl 0, .inl 0, .inl 0, .inl 0, .inl 0, .inl 0, .inl 0, .inl 0, .inl 0, .inl 0, .inl 0, .inl 0, .inl 0, .inl 0, .inl 0, .inl 0]),
  .inr (0, 40, [.inl 0, .inl 0, .inl 0, .inl 0, .inl 0, .inl 0, .inl 0, .inl 0, .inl 0, .inl 0, .inl 0, .inl 0, .inl 0, .inl 0, .inl 0, .inl 0, .inl 0, .inl 0, .inl 0, .inl 0, .inl 0, .inl 0, .inl 0, .inl 0, .inl 0, .inl 0, .inl 0, .inl 0, .inl 0, .inl 0, .inl 0, .inl 0, .inl 0, .inl 0, .inl 0, .inl 0, .inl 0, .inl 0, .inl 0, .inl 0]),
  .inr (0, 40, [.inl 0, .inl 0, .inl 0, .inl 0, .inl 0, .inl 0, .inl 0, .inl 0, .inl 0, .inl 0, .inl 0, .inl 0, .inl 0, .inl 0, .inl 0, .inl 0, .inl 0, .inl 0, .inl 0, .inl 0, .inl 0, .inl 0, .inl 0, .inl 0, .inl 0, .inl 0, .inl 0, .inl 0, .inl 0, .inl 0, .inl 0, .inl 0, .inl 0, .inl 0, .inl 0, .inl 0, .inl 0, .inl 0, .inl 0, .inl 0]),
  .inr (0, 40, [.inl 0, .inl 0, .inl 0, .inl 0, .inl 0, .inl 0, .inl 0, .inl 0, .inl 0, .inl 0, .inl 0, .inl 0, .inl 0, .inl 0, .inl 0, .inl 0, .inl 0, .inl 0, .inl 0, .inl 0, .inl 0, .inl 0, .inl 0, .inl 0, .inl 0, .inl 0, .inl 0, .inl 0, .inl 0, .inl 0, .inl 0, .inl 0, .inl 0, .inl 0, .inl 0, .inl 0, .inl 0, .inl 0, .inl 0, .inl 0]),
  .inr (2, 40, [.inl 0, .inl 0, .inl 0, .inl 0, .inl 0, .inl 0, .inl 0, .inl 0, .inl 0, .inl 0, .inl 0, .inl 0, .inl 0, .inl 0, .inl 0, .inl 0, .inl 0, .inl 0, .inl 0, .inl 0, .inl 0, .inl 0, .inl 0, .inl 0, .inl 0, .inl 0, .inl 0, .inl 0, .inl 0, .inl 0, .inl 0, .inl 0, .inl 0, .inl 0, .inl 0, .inl 0, .inl 0, .inl 0, .inl 0, .inl 0]),
  .inr (2, 40, [.inl 0, .inl 0, .inl 0, .inl 0, .inl 0, .inl 0, .inl 0, .inl 0, .inl 0, .inl 0, .inl 0, .inl 0, .inl 0, .inl 0, .inl 0, .inl 0, .inl 0, .inl 0, .inl 0, .inl 0, .inl 0, .inl 0, .inl 0, .inl 0, .inl 0, .inl 0, .inl 0, .inl 0, .inl 0, .inl 0, .inl 0, .inl 0, .inl 0, .inl 0, .inl 0, .inl 0, .inl 0, .inl 0, .inl 0, .inl 0]),
  .inr (0, 42, [.inl 0, .inl 0]),
  .inr (0, 42, []),
  .inl (10, [z_rf 11, z_rf 73, z_rf 74, z_rf 75, .inl 0, z_rf 76, .inl 0, .inl 0, .inl 0, z_rf 77, z_rf 78, .inl 0, .inl 4294967287]),
  .inr (0, 24, [.inl 0, .inl 0, .inl 0, .inl 0, .inl 0, .inl 0, .inl 0, .inl 0, .inl 0, .inl 0, .inl 0, .inl 0, .inl 0, .inl 0, .inl 0, .inl 0, .inl 0, .inl 0, .inl 0, .inl 0, .inl 0, .inl 0, .inl 0, .inl 0]),
  .inr (0, 24, [.inl 0, .inl 0, .inl 0, .inl 0, .inl 0, .inl 0, .inl 0, .inl 0, .inl 0, .inl 0, .inl 0, .inl 0, .inl 0, .inl 0, .inl 0, .inl 0, .inl 0, .inl 0, .inl 0, .inl 0, .inl 0, .inl 0, .inl 0, .inl 0]),
  .inr (0, 24, [.inl 0, .inl 0, .inl 0, .inl 0, .inl 0, .inl 0, .inl 0, .inl 0, .inl 0, .inl 0, .inl 0, .inl 0, .inl 0, .inl 0, .inl 0, .inl 0, .inl 0, .inl 0, .inl 0, .inl 0, .inl 0, .inl 0, .inl 0, .inl 0]),
  .inr (11, 200, []),
  .inr (0, 128, []),
  .inr (0, 128, []),
  .inl (6, [z_rf 80, z_rf 81, .inl 0, z_rf 82, z_rf 83, z_rf 84, z_rf 85, z_rf 86, .inl 0, .inl 0, z_rf 87, z_rf 88, z_rf 89, z_rf 90, z_rf 91, z_rf 92]),
  .inr (0, 8, [.inl 5, .inl 5, .inl 5, .inl 5, .inl 5, .inl 5, .inl 5, .inl 5]),
  .inr (0, 8, [.inl 0, .inl 0, .inl 0, .inl 0, .inl 0, .inl 0, .inl 0, .inl 0]),
  .inr (0, 12, []),
  .inr (0, 12, []),
  .inr (0, 96, []),
  .inr (0, 96, []),
  .inr (0, 96, []),
  .inr (0, 400, []),
  .inr (0, 400, []),
  .inr (0, 400, []),
  .inr (0, 400, []),
  .inr (0, 400, []),
  .inr (0, 400, []),
  .inl (1, [z_rf 79, .inl 0, z_rf 94, z_rf 95, z_rf 96, z_rf 97, z_rf 98, z_rf 99, z_rf 100, z_rf 101]),
  .inr (0, 148, []),
  .inr (0, 148, []),
  .inr (0, 148, []),
  .inr (3, 148, []),
  .inr (0, 96, []),
  .inr (3, 96, []),
  .inr (0, 96, []),
  .inr (3, 96, []),
  .inl (3, [.inl 0, .inl 0, z_rf 103, z_rf 104, z_rf 105, z_rf 106, z_rf 107, z_rf 108, z_rf 109, z_rf 110, z_rf 111, z_rf 112, .inl 0]),
  .inr (0, 7, []),
  .inr (0, 7, []),
  .inr (0, 7, []),
  .inr (0, 7, []),
  .inr (0, 7, []),
  .inr (0, 7, []),
  .inr (0, 7, []),
  .inr (0, 7, []),
  .inr (0, 7, []),
  .inr (0, 7, []),
  .inr (0, 16, [.inl 0, .inl 0, .inl 0, .inl 0, .inl 0, .inl 0, .inl 0, .inl 0, .inl 0, .inl 0, .inl 0, .inl 0, .inl 0, .inl 0, .inl 0, .inl 0])]
def zw2 : List zAE := [.inl (11, [z_rf 1, z_rf 11, z_rf 19, z_rf 35, z_rf 42, z_rf 72, z_rf 79, z_rf 93, z_rf 102, z_rf 113, .inl 0, .inl 0]),
  .inl (4, [z_rf 2, z_rf 3, .inl 0, .inl 0, .inl 4294967287, .inl 0, .inl 0, .inl 0, .inl 0]),
  .inr (1, 2000, []),
  .inl (2, [.inl 0, .inl 0, z_rf 4, z_rf 5, z_rf 6, z_rf 7, z_rf 8, z_rf 9, z_rf 10]),
  .inr (0, 24, []),
  .inr (0, 24, []),
  .inr (0, 24, []),
  .inr (0, 24, []),
  .inr (0, 72, []),
  .inr (0, 72, []),
  .inr (0, 16, []),
  .inl (2, [.inl 0, .inl 0, z_rf 12, z_rf 13, z_rf 14, z_rf 15, z_rf 16, z_rf 17, z_rf 18]),
  .inr (0, 24, []),
  .inr (0, 24, []),
  .inr (0, 24, []),
  .inr (0, 24, []),
  .inr (0, 72, []),
  .inr (0, 72, []),
  .inr (0, 16, []),
  .inl (9, [z_rf 11, .inl 0, z_rf 20, z_rf 21, z_rf 22, z_rf 23, z_rf 24, z_rf 25, z_rf 26, z_rf 27, z_rf 28, z_rf 29, z_rf 30, z_rf 31, z_rf 32, z_rf 33, z_rf 34, .inl 0, .inl 0, .inl 0]),
  .inr (0, 40, []),
  .inr (0, 40, []),
  .inr (0, 40, []),
  .inr (0, 40, []),
  .inr (0, 40, []),
  .inr (0, 320, []),
  .inr (0, 680, []),
  .inr (0, 360, []),
  .inr (0, 360, []),
  .inr (0, 360, []),
  .inr (0, 40, []),
  .inr (0, 8, []),
  .inr (0, 8, []),
  .inr (0, 17, []),
  .inr (0, 17, []),
  .inl (5, [z_rf 11, z_rf 36, z_rf 37, z_rf 38, z_rf 39, z_rf 40, z_rf 41, .inl 4294967295, .inl 0, .inl 0]),
  .inr (0, 24, [.inl 4294967295, .inl 4294967295, .inl 4294967295, .inl 4294967295, .inl 4294967295, .inl 4294967295, .inl 4294967295, .inl 4294967295, .inl 4294967295, .inl 4294967295, .inl 4294967295, .inl 4294967295, .inl 4294967295, .inl 4294967295, .inl 4294967295, .inl 4294967295, .inl 4294967295, .inl 4294967295, .inl 4294967295, .inl 4294967295, .inl 4294967295, .inl 4294967295, .inl 4294967295, .inl 4294967295]),
  .inr (0, 24, [.inl 4294967295, .inl 4294967295, .inl 4294967295, .inl 4294967295, .inl 4294967295, .inl 4294967295, .inl 4294967295, .inl 4294967295, .inl 4294967295, .inl 4294967295, .inl 4294967295, .inl 4294967295, .inl 4294967295, .inl 4294967295, .inl 4294967295, .inl 4294967295, .inl 4294967295, .inl 4294967295, .inl 4294967295, .inl 4294967295, .inl 4294967295, .inl 4294967295, .inl 4294967295, .inl 4294967295]),
  .inr (0, 24, [.inl 3, .inl 3, .inl 3, .inl 3, .inl 3, .inl 3, .inl 3, .inl 3, .inl 3, .inl 3, .inl 3, .inl 3, .inl 3, .inl 3, .inl 3, .inl 3, .inl 3, .inl 3, .inl 3, .inl 3, .inl 3, .inl 3, .inl 3, .inl 3]),
  .inr (0, 24, [.inl 3, .inl 3, .inl 3, .inl 3, .inl 3, .inl 3, .inl 3, .inl 3, .inl 3, .inl 3, .inl 3, .inl 3, .inl 3, .inl 3, .inl 3, .inl 3, .inl 3, .inl 3, .inl 3, .inl 3, .inl 3, .inl 3, .inl 3, .inl 3]),
  .inr (0, 24, [.inl 0, .inl 0, .inl 0, .inl 0, .inl 0, .inl 0, .inl 0, .inl 0, .inl 0, .inl 0, .inl 0, .inl 0, .inl 0, .inl 0, .inl 0, .inl 0, .inl 0, .inl 0, .inl 0, .inl 0, .inl 0, .inl 0, .inl 0, .inl 0]),
  .inr (0, 24, [.inl 0, .inl 0, .inl 0, .inl 0, .inl 0, .inl 0, .inl 0, .inl 0, .inl 0, .inl 0, .inl 0, .inl 0, .inl 0, .inl 0, .inl 0, .inl 0, .inl 0, .inl 0, .inl 0, .inl 0, .inl 0, .inl 0, .inl 0, .inl 0]),
  .inl (8, [z_rf 19, z_rf 35, z_rf 43, z_rf 44, .inl 0, .inl 0, .inl 0, .inl 0, .inl 0, .inl 0]),
  .inr (4, 3, [z_rf 45, z_rf 54, z_rf 63]),
  .inr (0, 40, [.inl 0, .inl 0, .inl 0, .inl 0, .inl 0, .inl 0, .inl 0, .inl 0, .inl 0, .inl 0, .inl 0, .inl 0, .inl 0, .inl 0, .inl 0, .inl 0, .inl 0, .inl 0, .inl 0, .inl 0, .inl 0, .inl 0, .inl 0, .inl 0, .inl 0, .inl 0, .inl 0, .inl 0, .inl 0, .inl 0, .inl 0, .inl 0, .inl 0, .inl 0, .inl 0, .inl 0, .inl 0, .inl 0, .inl 0, .inl 0]),
  .inl (0, [z_rf 19, z_rf 35, z_rf 46, z_rf 47, z_rf 48, z_rf 49, z_rf 50, z_rf 51, z_lng, .inl 0, z_rf 52, z_rf 53, .inl 0, .inl 1]),
  .inr (0, 40, [.inl 0, .inl 0, .inl 0, .inl 0, .inl 0, .inl 0, .inl 0, .inl 0, .inl 0, .inl 0, .inl 0, .inl 0, .inl 0, .inl 0, .inl 0, .inl 0, .inl 0, .inl 0, .inl 0, .inl 0, .inl 0, .inl 0, .inl 0, .inl 0, .inl 0, .inl 0, .inl 0, .inl 0, .inl 0, .inl 0, .inl 0, .inl 0, .inl 0, .inl 0, .inl 0, .inl 0, .inl 0, .inl 0, .inl 0, .inl 0]),
  .inr (0, 40, [.inl 0, .inl 0, .inl 0, .inl 0, .inl 0, .inl 0, .inl 0, .inl 0, .inl 0, .inl 0, .inl 0, .inl 0, .inl 0, .inl 0, .inl 0, .inl 0, .inl 0, .inl 0, .inl 0, .inl 0, .inl 0, .inl 0, .inl 0, .inl 0, .inl 0, .inl 0, .inl 0, .inl 0, .inl 0, .inl 0, .inl 0, .inl 0, .inl 0, .inl 0, .inl 0, .inl 0, .inl 0, .inl 0, .inl 0, .inl 0]),
  .inr (0, 40, [.inl 0, .inl 0, .inl 0, .inl 0, .inl 0, .inl 0, .inl 0, .inl 0, .inl 0, .inl 0, .inl 0, .inl 0, .inl 0, .inl 0, .inl 0, .inl 0, .inl 0, .inl 0, .inl 0, .inl 0, .inl 0, .inl 0, .inl 0, .inl 0, .inl 0, .inl 0, .inl 0, .inl 0, .inl 0, .inl 0, .inl 0, .inl 0, .inl 0, .inl 0, .inl 0, .inl 0, .inl 0, .inl 0, .inl 0, .inl 0]),
  .inr (0, 40, [.inl 0, .inl 0, .inl 0, .inl 0, .inl 0, .inl 0, .inl 0, .inl 0, .inl 0, .inl 0, .inl 0, .inl 0, .inl 0, .inl 0, .inl 0, .inl 0, .inl 0, .inl 0, .inl 0, .inl 0, .inl 0, .inl 0, .inl 0, .inl 0, .inl 0, .inl 0, .inl 0, .inl 0, .inl 0, .inl 0, .inl 0, .inl 0, .inl 0, .inl 0, .inl 0, .inl 0, .inl 0, .inl 0, .inl 0, .inl 0]),
  .inr (2, 40, [.inl 0, .inl 0, .inl 0, .inl 0, .inl 0, .inl 0, .inl 0, .inl 0, .inl 0, .inl 0, .inl 0, .inl 0, .inl 0, .inl 0, .inl 0, .inl 0, .inl 0, .inl 0, .inl 0, .inl 0, .inl 0, .inl 0, .inl 0, .inl 0, .inl 0, .inl 0, .inl 0, .inl 0, .inl 0, .inl 0, .inl 0, .inl 0, .inl 0, .inl 0, .inl 0, .inl 0, .inl 0, .inl 0, .inl 0, .inl 0]),
  .inr (2, 40, [.inl 0, .inl 0, .inl 0, .inl 0, .inl 0, .inl 0, .inl 0, .inl 0, .inl 0, .inl 0, .inl 0, .inl 0, .inl 0, .inl 0, .inl 0, .inl 0, .inl 0, .inl 0, .inl 0, .inl 0, .inl 0, .inl 0, .inl 0, .inl 0, .inl 0, .inl 0, .inl 0, .inl 0, .inl 0, .inl 0, .inl 0, .inl 0, .inl 0, .inl 0, .inl 0, .inl 0, .inl 0, .inl 0, .inl 0, .inl 0]),
  .inr (0, 42, [.inl 0, .inl 0]),
  .inr (0, 42, []),
  .inl (0, [z_rf 19, z_rf 35, z_rf 55, z_rf 56, z_rf 57, z_rf 58, z_rf 59, z_rf 60, z_lng, .inl 0, z_rf 61, z_rf 62, .inl 0, .inl 1]),
  .inr (0, 40, [.inl 0, .inl 0, .inl 0, .inl 0, .inl 0, .inl 0, .inl 0, .inl 0, .inl 0, .inl 0, .inl 0, .inl 0, .inl 0, .inl 0, .inl 0, .inl 0, .inl 0, .inl 0, .inl 0, .inl 0, .inl 0, .inl 0, .inl 0, .inl 0, .inl 0, .inl 0, .inl 0, .inl 0, .inl 0, .inl 0, .inl 0, .inl 0, .inl 0, .inl 0, .inl 0, .inl 0, .inl 0, .inl 0, .inl 0, .inl 0]),
  .inr (0, 40, [.inl 0, .inl 0, .inl 0, .inl 0, .inl 0, .inl 0, .inl 0, .inl 0, .inl 0, .inl 0, .inl 0, .inl 0, .inl 0, .inl 0, .inl 0, .inl 0, .inl 0, .inl 0, .inl 0, .inl 0, .inl 0, .inl 0, .inl 0, .inl 0, .inl 0, .inl 0, .inl 0, .inl 0, .inl 0, .inl 0, .inl 0, .inl 0, .inl 0, .inl 0, .inl 0, .inl 0, .inl 0, .inl 0, .inl 0, .inl 0]),
  .inr (0, 40, [.inl 0, .inl 0, .inl 0, .inl 0, .inl 0, .inl 0, .inl 0, .inl 0, .inl 0, .inl 0, .inl 0, .inl 0, .inl 0, .inl 0, .inl 0, .inl 0, .inl 0, .inl 0, .inl 0, .inl 0, .inl 0, .inl 0, .inl 0, .inl 0, .inl 0, .inl 0, .inl 0, .inl 0, .inl 0, .inl 0, .inl 0, .inl 0, .inl 0, .inl 0, .inl 0, .inl 0, .inl 0, .inl 0, .inl 0, .inl 0]),
  .inr (0, 40, [.inl 0, .inl 0, .inl 0, .inl 0, .inl 0, .inl 0, .inl 0, .inl 0, .inl 0, .inl 0, .inl 0, .inl 0, .inl 0, .inl 0, .inl 0, .inl 0, .inl 0, .inl 0, .inl 0, .inl 0, .inl 0, .inl 0, .inl 0, .inl 0, .inl 0, .inl 0, .inl 0, .inl 0, .inl 0, .inl 0, .inl 0, .inl 0, .inl 0, .inl 0, .inl 0, .inl 0, .inl 0, .inl 0, .inl 0, .inl 0]),
  .inr (2, 40, [.inl 0, .inl 0, .inl 0, .inl 0, .inl 0, .inl 0, .inl 0, .inl 0, .inl 0, .inl 0, .inl 0, .inl 0, .inl 0, .inl 0, .inl 0, .inl 0, .inl 0, .inl 0, .inl 0, .inl 0, .inl 0, .inl 0, .inl 0, .inl 0, .inl 0, .inl 0, .inl 0, .inl 0, .inl 0, .inl 0, .inl 0, .inl 0, .inl 0, .inl 0, .inl 0, .inl 0, .inl 0, .inl 0, .inl 0, .inl 0]),
  .inr (2, 40, [.inl 0, .inl 0, .inl 0, .inl 0, .inl 0, .inl 0, .inl 0, .inl 0, .inl 0, .inl 0, .inl 0, .inl 0, .inl 0, .inl 0, .inl 0, .inl 0, .inl 0, .inl 0, .inl 0, .inl 0, .inl 0, .inl 0, .inl 0, .inl 0, .inl 0, .inl 0, .inl 0, .inl 0, .inl 0, .inl 0, .inl 0, .inl 0, .inl 0, .inl 0, .inl 0, .inl 0, .inl 0, .inl 0, .inl 0, .inl 0]),
  .inr (0, 42, [.inl 0, .inl 0]),
  .inr (0, 42, []),
  .inl (0, [z_rf 19, z_rf 35, z_rf 64, z_rf 65, z_rf 66, z_rf 67, z_rf 68, z_rf 69, z_lng, .inl 0, z_rf 70, z_rf 71, .inl 0, .inl 1]),
  .inr (0, 40, [.inl 0, .inl 0, .inl 0, .inl 0, .inl 0, .inl 0, .inl 0, .inl 0, .inl 0, .inl 0, .inl 0, .inl 0, .inl 0, .inl 0, .inl 0, .inl 0, .inl 0, .inl 0, .inl 0, .inl 0, .inl 0, .inl 0, .inl 0, .inl 0, .inl 0, .inl 0, .inl 0, .inl 0, .inl 0, .inl 0, .inl 0, .inl 0, .inl 0, .inl 0, .inl 0, .inl 0, .inl 0, .inl 0, .inl 0, .inl 0]),
  .inr (0, 40, [.inl 0, .inl 0, .inl 0, .inl 0, .inl 0, .inl 0, .inl 0, .inl 0, .inl 0, .inl 0, .inl 0, .inl 0, .inl 0, .inl 0, .inl 0, .inl 0, .inl 0, .inl 0, .inl 0, .inl 0, .inl 0, .inl 0, .inl 0, .inl 0, .inl 0, .inl 0, .inl 0, .inl 0, .inl 0, .inl 0, .inl 0, .inl 0, .inl 0, .inl 0, .inl 0, .inl 0, .inl 0, .inl 0, .inl 0, .inl 0]),
  .inr (0, 40, [.inl 0, .inl 0, .inl 0, .inl 0, .inl 0, .inl 0, .inl 0, .inl 0, .inl 0, .inl 0, .inl 0, .inl 0, .inl 0, .inl 0, .inl 0, .inl 0, .inl 0, .inl 0, .inl 0, .inl 0, .inl 0, .inl 0, .inl 0, .inl 0, .inl 0, .inl 0, .inl 0, .inl 0, .inl 0, .inl 0, .inl 0, .inl 0, .inl 0, .inl 0, .inl 0, .inl 0, .inl 0, .inl 0, .inl 0, .inl 0]),
  .inr (0, 40, [.inl 0, .inl 0, .inl 0, .inl 0, .inl 0, .inl 0, .inl 0, .inl 0, .inl 0, .inl 0, .inl 0, .inl 0, .inl 0, .inl 0, .inl 0, .inl 0, .inl 0, .inl 0, .inl 0, .inl 0, .inl 0, .inl 0, .inl 0, .inl 0, .inl 0, .inl 0, .inl 0, .inl 0, .inl 0, .inl 0, .inl 0, .inl 0, .inl 0, .inl 0, .inl 0, .inl 0, .inl 0, .inl 0, .inl 0, .inl 0]),
  .inr (2, 40, [.inl 0, .inl 0, .inl 0, .inl 0, .inl 0, .inl 0, .inl 0, .inl 0, .inl 0, .inl 0, .inl 0, .inl 0, .inl 0, .inl 0, .inl 0, .inl 0, .inl 0, .inl 0, .inl 0, .inl 0, .inl 0, .inl 0, .inl 0, .inl 0, .inl 0, .inl 0, .inl 0, .inl 0, .inl 0, .inl 0, .inl 0, .inl 0, .inl 0, .inl 0, .inl 0, .inl 0, .inl 0, .inl 0, .inl 0, .inl 0]),
  .inr (2, 40, [.inl 0, .inl 0, .inl 0, .inl 0, .inl 0, .inl 0, .inl 0, .inl 0, .inl 0, .inl 0, .inl 0, .inl 0, .inl 0, .inl 0, .inl 0, .inl 0, .inl 0, .inl 0, .inl 0, .inl 0, .inl 0, .inl 0, .inl 0, .inl 0, .inl 0, .inl 0, .inl 0, .inl 0, .inl 0, .inl 0, .inl 0, .inl 0, .inl 0, .inl 0, .inl 0, .inl 0, .inl 0, .inl 0, .inl 0, .inl 0]),
  .inr (0, 42, [.inl 0, .inl 0]),
  .inr (0, 42, []),
  .inl (10, [z_rf 11, z_rf 73, z_rf 74, z_rf 75, .inl 0, z_rf 76, .inl 0, .inl 0, .inl 0, z_rf 77, z_rf 78, .inl 0, .inl 4294967287]),
  .inr (0, 24, [.inl 0, .inl 0, .inl 0, .inl 0, .inl 0, .inl 0, .inl 0, .inl 0, .inl 0, .inl 0, .inl 0, .inl 0, .inl 0, .inl 0, .inl 0, .inl 0, .inl 0, .inl 0, .inl 0, .inl 0, .inl 0, .inl 0, .inl 0, .inl 0]),
  .inr (0, 24, [.inl 0, .inl 0, .inl 0, .inl 0, .inl 0, .inl 0, .inl 0, .inl 0, .inl 0, .inl 0, .inl 0, .inl 0, .inl 0, .inl 0, .inl 0, .inl 0, .inl 0, .inl 0, .inl 0, .inl 0, .inl 0, .inl 0, .inl 0, .inl 0]),
  .inr (0, 24, [.inl 0, .inl 0, .inl 0, .inl 0, .inl 0, .inl 0, .inl 0, .inl 0, .inl 0, .inl 0, .inl 0, .inl 0, .inl 0, .inl 0, .inl 0, .inl 0, .inl 0, .inl 0, .inl 0, .inl 0, .inl 0, .inl 0, .inl 0, .inl 0]),
  .inr (11, 200, []),
  .inr (0, 128, []),
  .inr (0, 128, []),
  .inl (6, [z_rf 80, z_rf 81, .inl 0, z_rf 82, z_rf 83, z_rf 84, z_rf 85, z_rf 86, .inl 0, .inl 0, z_rf 87, z_rf 88, z_rf 89, z_rf 90, z_rf 91, z_rf 92]),
  .inr (0, 8, [.inl 5, .inl 5, .inl 5, .inl 5, .inl 5, .inl 5, .inl 5, .inl 5]),
  .inr (0, 8, [.inl 0, .inl 0, .inl 0, .inl 0, .inl 0, .inl 0, .inl 0, .inl 0]),
  .inr (0, 12, []),
  .inr (0, 12, []),
  .inr (0, 96, []),
  .inr (0, 96, []),
  .inr (0, 96, []),
  .inr (0, 400, []),
  .inr (0, 400, []),
  .inr (0, 400, []),
  .inr (0, 400, []),
  .inr (0, 400, []),
  .inr (0, 400, []),
  .inl (1, [z_rf 79, .inl 0, z_rf 94, z_rf 95, z_rf 96, z_rf 97, z_rf 98, z_rf 99, z_rf 100, z_rf 101]),
  .inr (0, 148, []),
  .inr (0, 148, []),
  .inr (0, 148, []),
  .inr (3, 148, []),
  .inr (0, 96, []),
  .inr (3, 96, []),
  .inr (0, 96, []),
  .inr (3, 96, []),
  .inl (3, [.inl 0, .inl 0, z_rf 103, z_rf 104, z_rf 105, z_rf 106, z_rf 107, z_rf 108, z_rf 109, z_rf 110, z_rf 111, z_rf 112, .inl 0]),
  .inr (0, 7, []),
  .inr (0, 7, []),
  .inr (0, 7, []),
  .inr (0, 7, []),
  .inr (0, 7, []),
  .inr (0, 7, []),
  .inr (0, 7, []),
  .inr (0, 7, []),
  .inr (0, 7, []),
  .inr (0, 7, []),
  .inr (0, 16, [.inl 0, .inl 0, .inl 0, .inl 0, .inl 0, .inl 0, .inl 0, .inl 0, .inl 0, .inl 0, .inl 0, .inl 0, .inl 0, .inl 0, .inl 0, .inl 0]),
  .inl (12, [z_rf 115, .inl 0, .inl 0, .inl 0, .inl 0, .inl 0, .inl 0, z_lng, .inl 0, .inl 4294967287, .inl 0, z_rf 116, z_rf 117, z_rf 118, z_rf 119, z_rf 120, z_rf 121, .inl 0, z_rf 122, z_rf 123, .inl 0, z_rf 124, z_rf 125, z_rf 126, z_rf 127, z_rf 128, z_rf 129, .inl 0, z_rf 130, z_rf 131, .inl 0, .inl 0, .inl 0, z_rf 132, z_rf 133, z_rf 134, z_rf 135, z_rf 136, z_rf 137, z_rf 138, z_rf 139, z_rf 140, z_rf 141, z_rf 142, z_rf 143, .inl 0, .inl 0, .inl 0, .inl 0, z_rf 144, .inl 0, .inl 0, z_rf 145, z_rf 146, z_rf 147, z_rf 148, z_rf 149, z_rf 150, z_rf 151, z_rf 152, z_rf 153, z_rf 154, z_rf 155, z_rf 156, z_rf 157, z_rf 158, z_rf 159, z_rf 160, z_rf 161, z_rf 162, z_rf 163, z_rf 164, z_rf 165, z_rf 166, z_rf 167, z_rf 168, z_rf 169, .inl 0, .inl 0, .inl 0, .inl 0, z_rf 170, .inl 0, z_rf 171, z_rf 172, z_rf 173, z_rf 174, .inl 0, .inl 0, z_rf 175, z_rf 176, z_rf 177, z_rf 178, z_rf 179, z_rf 180, z_rf 181, z_rf 182, z_rf 183, z_rf 184, z_rf 185, z_rf 186, z_rf 187, z_rf 188, z_rf 189, .inl 0, z_rf 190, .inl 0, z_rf 191, z_rf 192, z_rf 193, .inl 0, z_rf 194, z_rf 195, .inl 0, z_rf 196, z_rf 197, z_rf 198, z_rf 199, z_rf 200, z_rf 201, z_rf 202, .inl 0, z_rf 203, z_rf 204, z_rf 205, z_rf 206, .inl 0, z_rf 207, z_rf 208, z_rf 209, z_rf 210, z_rf 211, z_rf 212, .inl 0, z_rf 213, z_rf 214, z_rf 215, z_rf 216, z_rf 217, z_rf 218, z_rf 219, z_rf 220, .inl 0, z_rf 221, z_rf 222, z_rf 223]),
  .inr (1, 2000, []),
  .inr (2, 24, []),
  .inr (0, 24, []),
  .inr (0, 24, []),
  .inr (0, 24, []),
  .inr (0, 72, []),
  .inr (0, 48, []),
  .inr (0, 16, []),
  .inr (0, 16, []),
  .inr (2, 24, []),
  .inr (0, 24, []),
  .inr (0, 24, []),
  .inr (0, 24, []),
  .inr (0, 72, []),
  .inr (0, 48, []),
  .inr (0, 16, []),
  .inr (0, 16, []),
  .inr (0, 40, []),
  .inr (0, 40, []),
  .inr (0, 40, []),
  .inr (0, 320, []),
  .inr (0, 40, []),
  .inr (0, 40, []),
  .inr (0, 800, []),
  .inr (0, 800, []),
  .inr (0, 800, []),
  .inr (0, 8, []),
  .inr (0, 8, []),
  .inr (0, 8, []),
  .inr (0, 9, []),
  .inr (0, 20, []),
  .inr (0, 20, []),
  .inr (0, 20, []),
  .inr (0, 24, []),
  .inr (0, 24, [.inl 3, .inl 3, .inl 3, .inl 3, .inl 3, .inl 3, .inl 3, .inl 3, .inl 3, .inl 3, .inl 3, .inl 3, .inl 3, .inl 3, .inl 3, .inl 3, .inl 3, .inl 3, .inl 3, .inl 3, .inl 3, .inl 3, .inl 3, .inl 3]),
  .inr (0, 24, []),
  .inr (0, 24, [.inl 3, .inl 3, .inl 3, .inl 3, .inl 3, .inl 3, .inl 3, .inl 3, .inl 3, .inl 3, .inl 3, .inl 3, .inl 3, .inl 3, .inl 3, .inl 3, .inl 3, .inl 3, .inl 3, .inl 3, .inl 3, .inl 3, .inl 3, .inl 3]),
  .inr (0, 24, [.inl 4294967295, .inl 4294967295, .inl 4294967295, .inl 4294967295, .inl 4294967295, .inl 4294967295, .inl 4294967295, .inl 4294967295, .inl 4294967295, .inl 4294967295, .inl 4294967295, .inl 4294967295, .inl 4294967295, .inl 4294967295, .inl 4294967295, .inl 4294967295, .inl 4294967295, .inl 4294967295, .inl 4294967295, .inl 4294967295, .inl 4294967295, .inl 4294967295, .inl 4294967295, .inl 4294967295]),
  .inr (0, 24, [.inl 4294967295, .inl 4294967295, .inl 4294967295, .inl 4294967295, .inl 4294967295, .inl 4294967295, .inl 4294967295, .inl 4294967295, .inl 4294967295, .inl 4294967295, .inl 4294967295, .inl 4294967295, .inl 4294967295, .inl 4294967295, .inl 4294967295, .inl 4294967295, .inl 4294967295, .inl 4294967295, .inl 4294967295, .inl 4294967295, .inl 4294967295, .inl 4294967295, .inl 4294967295, .inl 4294967295]),
  .inr (0, 120, [.inl 0, .inl 0, .inl 0, .inl 0, .inl 0, .inl 0, .inl 0, .inl 0, .inl 0, .inl 0, .inl 0, .inl 0, .inl 0, .inl 0, .inl 0, .inl 0, .inl 0, .inl 0, .inl 0, .inl 0, .inl 0, .inl 0, .inl 0, .inl 0, .inl 0, .inl 0, .inl 0, .inl 0, .inl 0, .inl 0, .inl 0, .inl 0, .inl 0, .inl 0, .inl 0, .inl 0, .inl 0, .inl 0, .inl 0, .inl 0, .inl 0, .inl 0, .inl 0, .inl 0, .inl 0, .inl 0, .inl 0, .inl 0, .inl 0, .inl 0, .inl 0, .inl 0, .inl 0, .inl 0, .inl 0, .inl 0, .inl 0, .inl 0, .inl 0, .inl 0, .inl 0, .inl 0, .inl 0, .inl 0, .inl 0, .inl 0, .inl 0, .inl 0, .inl 0, .inl 0, .inl 0, .inl 0, .inl 0, .inl 0, .inl 0, .inl 0, .inl 0, .inl 0, .inl 0, .inl 0, .inl 0, .inl 0, .inl 0, .inl 0, .inl 0, .inl 0, .inl 0, .inl 0, .inl 0, .inl 0, .inl 0, .inl 0, .inl 0, .inl 0, .inl 0, .inl 0, .inl 0, .inl 0, .inl 0, .inl 0, .inl 0, .inl 0, .inl 0, .inl 0, .inl 0, .inl 0, .inl 0, .inl 0, .inl 0, .inl 0, .inl 0, .inl 0, .inl 0, .inl 0, .inl 0, .inl 0, .inl 0, .inl 0, .inl 0, .inl 0]),
  .inr (0, 120, [.inl 0, .inl 0, .inl 0, .inl 0, .inl 0, .inl 0, .inl 0, .inl 0, .inl 0, .inl 0, .inl 0, .inl 0, .inl 0, .inl 0, .inl 0, .inl 0, .inl 0, .inl 0, .inl 0, .inl 0, .inl 0, .inl 0, .inl 0, .inl 0, .inl 0, .inl 0, .inl 0, .inl 0, .inl 0, .inl 0, .inl 0, .inl 0, .inl 0, .inl 0, .inl 0, .inl 0, .inl 0, .inl 0, .inl 0, .inl 0, .inl 0, .inl 0, .inl 0, .inl 0, .inl 0, .inl 0, .inl 0, .inl 0, .inl 0, .inl 0, .inl 0, .inl 0, .inl 0, .inl 0, .inl 0, .inl 0, .inl 0, .inl 0, .inl 0, .inl 0, .inl 0, .inl 0, .inl 0, .inl 0, .inl 0, .inl 0, .inl 0, .inl 0, .inl 0, .inl 0, .inl 0, .inl 0, .inl 0, .inl 0, .inl 0, .inl 0, .inl 0, .inl 0, .inl 0, .inl 0, .inl 0, .inl 0, .inl 0, .inl 0, .inl 0, .inl 0, .inl 0, .inl 0, .inl 0, .inl 0, .inl 0, .inl 0, .inl 0, .inl 0, .inl 0, .inl 0, .inl 0, .inl 0, .inl 0, .inl 0, .inl 0, .inl 0, .inl 0, .inl 0, .inl 0, .inl 0, .inl 0, .inl 0, .inl 0, .inl 0, .inl 0, .inl 0, .inl 0, .inl 0, .inl 0, .inl 0, .inl 0, .inl 0, .inl 0, .inl 0]),
  .inr (2, 120, [.inl 0, .inl 0, .inl 0, .inl 0, .inl 0, .inl 0, .inl 0, .inl 0, .inl 0, .inl 0, .inl 0, .inl 0, .inl 0, .inl 0, .inl 0, .inl 0, .inl 0, .inl 0, .inl 0, .inl 0, .inl 0, .inl 0, .inl 0, .inl 0, .inl 0, .inl 0, .inl 0, .inl 0, .inl 0, .inl 0, .inl 0, .inl 0, .inl 0, .inl 0, .inl 0, .inl 0, .inl 0, .inl 0, .inl 0, .inl 0, .inl 0, .inl 0, .inl 0, .inl 0, .inl 0, .inl 0, .inl 0, .inl 0, .inl 0, .inl 0, .inl 0, .inl 0, .inl 0, .inl 0, .inl 0, .inl 0, .inl 0, .inl 0, .inl 0, .inl 0, .inl 0, .inl 0, .inl 0, .inl 0, .inl 0, .inl 0, .inl 0, .inl 0, .inl 0, .inl 0, .inl 0, .inl 0, .inl 0, .inl 0, .inl 0, .inl 0, .inl 0, .inl 0, .inl 0, .inl 0, .inl 0, .inl 0, .inl 0, .inl 0, .inl 0, .inl 0, .inl 0, .inl 0, .inl 0, .inl 0, .inl 0, .inl 0, .inl 0, .inl 0, .inl 0, .inl 0, .inl 0, .inl 0, .inl 0, .inl 0, .inl 0, .inl 0, .inl 0, .inl 0, .inl 0, .inl 0, .inl 0, .inl 0, .inl 0, .inl 0, .inl 0, .inl 0, .inl 0, .inl 0, .inl 0, .inl 0, .inl 0, .inl 0, .inl 0, .inl 0]),
  .inr (2, 120, [.inl 0, .inl 0, .inl 0, .inl 0, .inl 0, .inl 0, .inl 0, .inl 0, .inl 0, .inl 0, .inl 0, .inl 0, .inl 0, .inl 0, .inl 0, .inl 0, .inl 0, .inl 0, .inl 0, .inl 0, .inl 0, .inl 0, .inl 0, .inl 0, .inl 0, .inl 0, .inl 0, .inl 0, .inl 0, .inl 0, .inl 0, .inl 0, .inl 0, .inl 0, .inl 0, .inl 0, .inl 0, .inl 0, .inl 0, .inl 0, .inl 0, .inl 0, .inl 0, .inl 0, .inl 0, .inl 0, .inl 0, .inl 0, .inl 0, .inl 0, .inl 0, .inl 0, .inl 0, .inl 0, .inl 0, .inl 0, .inl 0, .inl 0, .inl 0, .inl 0, .inl 0, .inl 0, .inl 0, .inl 0, .inl 0, .inl 0, .inl 0, .inl 0, .inl 0, .inl 0, .inl 0, .inl 0, .inl 0, .inl 0, .inl 0, .inl 0, .inl 0, .inl 0, .inl 0, .inl 0, .inl 0, .inl 0, .inl 0, .inl 0, .inl 0, .inl 0, .inl 0, .inl 0, .inl 0, .inl 0, .inl 0, .inl 0, .inl 0, .inl 0, .inl 0, .inl 0, .inl 0, .inl 0, .inl 0, .inl 0, .inl 0, .inl 0, .inl 0, .inl 0, .inl 0, .inl 0, .inl 0, .inl 0, .inl 0, .inl 0, .inl 0, .inl 0, .inl 0, .inl 0, .inl 0, .inl 0, .inl 0, .inl 0, .inl 0, .inl 0]),
  .inr (0, 120, [.inl 0, .inl 0, .inl 0, .inl 0, .inl 0, .inl 0, .inl 0, .inl 0, .inl 0, .inl 0, .inl 0, .inl 0, .inl 0, .inl 0, .inl 0, .inl 0, .inl 0, .inl 0, .inl 0, .inl 0, .inl 0, .inl 0, .inl 0, .inl 0, .inl 0, .inl 0, .inl 0, .inl 0, .inl 0, .inl 0, .inl 0, .inl 0, .inl 0, .inl 0, .inl 0, .inl 0, .inl 0, .inl 0, .inl 0, .inl 0, .inl 0, .inl 0, .inl 0, .inl 0, .inl 0, .inl 0, .inl 0, .inl 0, .inl 0, .inl 0, .inl 0, .inl 0, .inl 0, .inl 0, .inl 0, .inl 0, .inl 0, .inl 0, .inl 0, .inl 0, .inl 0, .inl 0, .inl 0, .inl 0, .inl 0, .inl 0, .inl 0, .inl 0, .inl 0, .inl 0, .inl 0, .inl 0, .inl 0, .inl 0, .inl 0, .inl 0, .inl 0, .inl 0, .inl 0, .inl 0, .inl 0, .inl 0, .inl 0, .inl 0, .inl 0, .inl 0, .inl 0, .inl 0, .inl 0, .inl 0, .inl 0, .inl 0, .inl 0, .inl 0, .inl 0, .inl 0, .inl 0, .inl 0, .inl 0, .inl 0, .inl 0, .inl 0, .inl 0, .inl 0, .inl 0, .inl 0, .inl 0, .inl 0, .inl 0, .inl 0, .inl 0, .inl 0, .inl 0, .inl 0, .inl 0, .inl 0, .inl 0, .inl 0, .inl 0, .inl 0]),
  .inr (0, 120, [.inl 0, .inl 0, .inl 0, .inl 0, .inl 0, .inl 0, .inl 0, .inl 0, .inl 0, .inl 0, .inl 0, .inl 0, .inl 0, .inl 0, .inl 0, .inl 0, .inl 0, .inl 0, .inl 0, .inl 0, .inl 0, .inl 0, .inl 0, .inl 0, .inl 0, .inl 0, .inl 0, .inl 0, .inl 0, .inl 0, .inl 0, .inl 0, .inl 0, .inl 0, .inl 0, .inl 0, .inl 0, .inl 0, .inl 0, .inl 0, .inl 0, .inl 0, .inl 0, .inl 0, .inl 0, .inl 0, .inl 0, .inl 0, .inl 0, .inl 0, .inl 0, .inl 0, .inl 0, .inl 0, .inl 0, .inl 0, .inl 0, .inl 0, .inl 0, .inl 0, .inl 0, .inl 0, .inl 0, .inl 0, .inl 0, .inl 0, .inl 0, .inl 0, .inl 0, .inl 0, .inl 0, .inl 0, .inl 0, .inl 0, .inl 0, .inl 0, .inl 0, .inl 0, .inl 0, .inl 0, .inl 0, .inl 0, .inl 0, .inl 0, .inl 0, .inl 0, .inl 0, .inl 0, .inl 0, .inl 0, .inl 0, .inl 0, .inl 0, .inl 0, .inl 0, .inl 0, .inl 0, .inl 0, .inl 0, .inl 0, .inl 0, .inl 0, .inl 0, .inl 0, .inl 0, .inl 0, .inl 0, .inl 0, .inl 0, .inl 0, .inl 0, .inl 0, .inl 0, .inl 0, .inl 0, .inl 0, .inl 0, .inl 0, .inl 0, .inl 0]),
  .inr (2, 120, [.inl 0, .inl 0, .inl 0, .inl 0, .inl 0, .inl 0, .inl 0, .inl 0, .inl 0, .inl 0, .inl 0, .inl 0, .inl 0, .inl 0, .inl 0, .inl 0, .inl 0, .inl 0, .inl 0, .inl 0, .inl 0, .inl 0, .inl 0, .inl 0, .inl 0, .inl 0, .inl 0, .inl 0, .inl 0, .inl 0, .inl 0, .inl 0, .inl 0, .inl 0, .inl 0, .inl 0, .inl 0, .inl 0, .inl 0, .inl 0, .inl 0, .inl 0, .inl 0, .inl 0, .inl 0, .inl 0, .inl 0, .inl 0, .inl 0, .inl 0, .inl 0, .inl 0, .inl 0, .inl 0, .inl 0, .inl 0, .inl 0, .inl 0, .inl 0, .inl 0, .inl 0, .inl 0, .inl 0, .inl 0, .inl 0, .inl 0, .inl 0, .inl 0, .inl 0, .inl 0, .inl 0, .inl 0, .inl 0, .inl 0, .inl 0, .inl 0, .inl 0, .inl 0, .inl 0, .inl 0, .inl 0, .inl 0, .inl 0, .inl 0, .inl 0, .inl 0, .inl 0, .inl 0, .inl 0, .inl 0, .inl 0, .inl 0, .inl 0, .inl 0, .inl 0, .inl 0, .inl 0, .inl 0, .inl 0, .inl 0, .inl 0, .inl 0, .inl 0, .inl 0, .inl 0, .inl 0, .inl 0, .inl 0, .inl 0, .inl 0, .inl 0, .inl 0, .inl 0, .inl 0, .inl 0, .inl 0, .inl 0, .inl 0, .inl 0, .inl 0]),
  .inr (0, 3, [.inl 0, .inl 0, .inl 0]),
  .inr (0, 3, [.inl 0, .inl 0, .inl 0]),
  .inr (0, 3, [.inl 0, .inl 0, .inl 0]),
  .inr (0, 3, [.inl 0, .inl 0, .inl 0]),
  .inr (0, 3, [.inl 0, .inl 0, .inl 0]),
  .inr (0, 120, [.inl 0, .inl 0, .inl 0, .inl 0, .inl 0, .inl 0, .inl 0, .inl 0, .inl 0, .inl 0, .inl 0, .inl 0, .inl 0, .inl 0, .inl 0, .inl 0, .inl 0, .inl 0, .inl 0, .inl 0, .inl 0, .inl 0, .inl 0, .inl 0, .inl 0, .inl 0, .inl 0, .inl 0, .inl 0, .inl 0, .inl 0, .inl 0, .inl 0, .inl 0, .inl 0, .inl 0, .inl 0, .inl 0, .inl 0, .inl 0, .inl 0, .inl 0, .inl 0, .inl 0, .inl 0, .inl 0, .inl 0, .inl 0, .inl 0, .inl 0, .inl 0, .inl 0, .inl 0, .inl 0, .inl 0, .inl 0, .inl 0, .inl 0, .inl 0, .inl 0, .inl 0, .inl 0, .inl 0, .inl 0, .inl 0, .inl 0, .inl 0, .inl 0, .inl 0, .inl 0, .inl 0, .inl 0, .inl 0, .inl 0, .inl 0, .inl 0, .inl 0, .inl 0, .inl 0, .inl 0, .inl 0, .inl 0, .inl 0, .inl 0, .inl 0, .inl 0, .inl 0, .inl 0, .inl 0, .inl 0, .inl 0, .inl 0, .inl 0, .inl 0, .inl 0, .inl 0, .inl 0, .inl 0, .inl 0, .inl 0, .inl 0, .inl 0, .inl 0, .inl 0, .inl 0, .inl 0, .inl 0, .inl 0, .inl 0, .inl 0, .inl 0, .inl 0, .inl 0, .inl 0, .inl 0, .inl 0, .inl 0, .inl 0, .inl 0, .inl 0]),
  .inr (0, 120, [.inl 0, .inl 0, .inl 0, .inl 0, .inl 0, .inl 0, .inl 0, .inl 0, .inl 0, .inl 0, .inl 0, .inl 0, .inl 0, .inl 0, .inl 0, .inl 0, .inl 0, .inl 0, .inl 0, .inl 0, .inl 0, .inl 0, .inl 0, .inl 0, .inl 0, .inl 0, .inl 0, .inl 0, .inl 0, .inl 0, .inl 0, .inl 0, .inl 0, .inl 0, .inl 0, .inl 0, .inl 0, .inl 0, .inl 0, .inl 0, .inl 0, .inl 0, .inl 0, .inl 0, .inl 0, .inl 0, .inl 0, .inl 0, .inl 0, .inl 0, .inl 0, .inl 0, .inl 0, .inl 0, .inl 0, .inl 0, .inl 0, .inl 0, .inl 0, .inl 0, .inl 0, .inl 0, .inl 0, .inl 0, .inl 0, .inl 0, .inl 0, .inl 0, .inl 0, .inl 0, .inl 0, .inl 0, .inl 0, .inl 0, .inl 0, .inl 0, .inl 0, .inl 0, .inl 0, .inl 0, .inl 0, .inl 0, .inl 0, .inl 0, .inl 0, .inl 0, .inl 0, .inl 0, .inl 0, .inl 0, .inl 0, .inl 0, .inl 0, .inl 0, .inl 0, .inl 0, .inl 0, .inl 0, .inl 0, .inl 0, .inl 0, .inl 0, .inl 0, .inl 0, .inl 0, .inl 0, .inl 0, .inl 0, .inl 0, .inl 0, .inl 0, .inl 0, .inl 0, .inl 0, .inl 0, .inl 0, .inl 0, .inl 0, .inl 0, .inl 0]),
  .inr (2, 3, [.inl 1, .inl 1, .inl 1]),
  .inr (0, 3, [.inl 0, .inl 0, .inl 0]),
  .inr (3, 3, []),
  .inr (0, 24, [.inl 0, .inl 0, .inl 0, .inl 0, .inl 0, .inl 0, .inl 0, .inl 0, .inl 0, .inl 0, .inl 0, .inl 0, .inl 0, .inl 0, .inl 0, .inl 0, .inl 0, .inl 0, .inl 0, .inl 0, .inl 0, .inl 0, .inl 0, .inl 0]),
  .inr (0, 24, [.inl 4294967287, .inl 4294967287, .inl 4294967287, .inl 4294967287, .inl 4294967287, .inl 4294967287, .inl 4294967287, .inl 4294967287, .inl 4294967287, .inl 4294967287, .inl 4294967287, .inl 4294967287, .inl 4294967287, .inl 4294967287, .inl 4294967287, .inl 4294967287, .inl 4294967287, .inl 4294967287, .inl 4294967287, .inl 4294967287, .inl 4294967287, .inl 4294967287, .inl 4294967287, .inl 4294967287]),
  .inr (0, 24, []),
  .inr (2, 24, [.inl 0, .inl 0, .inl 0, .inl 0, .inl 0, .inl 0, .inl 0, .inl 0, .inl 0, .inl 0, .inl 0, .inl 0, .inl 0, .inl 0, .inl 0, .inl 0, .inl 0, .inl 0, .inl 0, .inl 0, .inl 0, .inl 0, .inl 0, .inl 0]),
  .inr (0, 200, []),
  .inr (0, 200, []),
  .inr (0, 200, []),
  .inr (0, 200, []),
  .inr (0, 200, []),
  .inr (0, 200, []),
  .inr (2, 200, []),
  .inr (0, 200, []),
  .inr (0, 200, []),
  .inr (0, 200, []),
  .inr (0, 8, []),
  .inr (0, 512, []),
  .inr (0, 512, []),
  .inr (2, 8, [.inl 0, .inl 0, .inl 0, .inl 0, .inl 0, .inl 0, .inl 0, .inl 0]),
  .inr (2, 24, []),
  .inr (0, 16, [.inl 0, .inl 0, .inl 0, .inl 0, .inl 0, .inl 0, .inl 0, .inl 0, .inl 0, .inl 0, .inl 0, .inl 0, .inl 0, .inl 0, .inl 0, .inl 0]),
  .inr (0, 40, [.inl 0, .inl 0, .inl 0, .inl 0, .inl 0, .inl 0, .inl 0, .inl 0, .inl 0, .inl 0, .inl 0, .inl 0, .inl 0, .inl 0, .inl 0, .inl 0, .inl 0, .inl 0, .inl 0, .inl 0, .inl 0, .inl 0, .inl 0, .inl 0, .inl 0, .inl 0, .inl 0, .inl 0, .inl 0, .inl 0, .inl 0, .inl 0, .inl 0, .inl 0, .inl 0, .inl 0, .inl 0, .inl 0, .inl 0, .inl 0]),
  .inr (0, 40, []),
  .inr (0, 40, []),
  .inr (0, 8, [.inl 5, .inl 5, .inl 5, .inl 5, .inl 5, .inl 5, .inl 5, .inl 5]),
  .inr (0, 8, [.inl 0, .inl 0, .inl 0, .inl 0, .inl 0, .inl 0, .inl 0, .inl 0]),
  .inr (0, 12, []),
  .inr (0, 12, []),
  .inr (0, 96, []),
  .inr (0, 96, []),
  .inr (0, 96, []),
  .inr (0, 480, []),
  .inr (3, 480, []),
  .inr (0, 400, []),
  .inr (0, 400, []),
  .inr (0, 400, []),
  .inr (3, 400, []),
  .inr (0, 400, []),
  .inr (0, 400, []),
  .inr (0, 400, []),
  .inr (0, 400, []),
  .inr (0, 400, []),
  .inr (0, 400, []),
  .inr (0, 7, []),
  .inr (0, 7, []),
  .inr (0, 7, []),
  .inr (0, 7, []),
  .inr (0, 7, []),
  .inr (0, 7, []),
  .inr (0, 7, []),
  .inr (0, 7, []),
  .inr (0, 7, []),
  .inr (0, 7, []),
  .inr (0, 7, [])]
def zlo7 : List (Nat × zAV) := [(0, z_scr)]
def zlo18 : List (Nat × zAV) := [(3, .inl 0), (2, z_rf 114), (1, z_rf 0), (0, z_scr)]
def zcd0 : List zEnt := [(0, .new 7, 11, 0, 1022), (3, .dup, 0, 0, 0), (4, .invokespecial 9, 21, 0, 1024)]
def zcd7 : List zEnt := [(7, .astore_n 1, 0, 0, 0), (8, .new 10, 12, 0, 8069), (11, .dup, 0, 0, 0), (12, .invokespecial 12, 120, 0, 8071), (15, .astore_n 2, 0, 0, 0), (16, .iconst 0, 0, 0, 0), (17, .istore_n 3, 0, 0, 0)]
def zcd18 : List zEnt := [(18, .iload_n 3, 0, 0, 0), (19, .aload_n 0, 0, 0, 0), (20, .arraylength, 0, 0, 0), (21, .bipush 6, 0, 0, 0), (23, .isub, 0, 0, 0), (24, .if_icmp .gt 1762, 1786, 0, 0), (27, .aload_n 0, 0, 0, 0), (28, .iload_n 3, 0, 0, 0), (29, .iaload, 0, 0, 0), (30, .bipush 63, 0, 0, 0), (32, .iand, 0, 0, 0)]
theorem zs_0 : z_ev zcls zzty zzdv zms 60000 (0, z_eqS 7 zlo7 [z_rf 0] 114 10532 zE6 zw1) zmL zcd0 0 [(0, z_scr)] [] 0 0 zE6 [] z_k0 = true := by decide +kernel
end
section
theorem zs_7 : z_ev zcls zzty zzdv zms 60000 (0, z_eqS 18 zlo18 [] 224 26096 zE6 zw2) zmL zcd7 7 zlo7 [z_rf 0] 114 10532 zE6 zw1 z_k0 = true := by decide +kernel
end
section
theorem zs_18_0 : z_ev zcls zzty zzdv zms 1000 (1, z_nos) zmL zcd18 18 zlo18 [] 224 26096 zE6 zw2 z_k0 = true := by decide +kernel
theorem zs_18_1 : z_ev zcls zzty zzdv zms 1000 (2, z_nos) zmL zcd18 18 zlo18 [] 224 26096 zE6 zw2 z_k0 = true := by decide +kernel
theorem zs_18_2 : z_ev zcls zzty zzdv zms 1000 (3, z_nos) zmL zcd18 18 zlo18 [] 224 26096 zE6 zw2 z_k0 = true := by decide +kernel
theorem zs_18_3 : z_ev zcls zzty zzdv zms 1000 (4, z_nos) zmL zcd18 18 zlo18 [] 224 26096 zE6 zw2 z_k0 = true := by decide +kernel
theorem zs_18_4 : z_ev zcls zzty zzdv zms 1000 (5, z_nos) zmL zcd18 18 zlo18 [] 224 26096 zE6 zw2 z_k0 = true := by decide +kernel
theorem zs_18_5 : z_ev zcls zzty zzdv zms 1000 (6, z_nos) zmL zcd18 18 zlo18 [] 224 26096 zE6 zw2 z_k0 = true := by decide +kernel
theorem zs_18_6 : z_ev zcls zzty zzdv zms 1000 (7, z_eqS 33 zlo18 [z_any] 224 26096 zE6 zw2) zmL zcd18 18 zlo18 [] 224 26096 zE6 zw2 z_k0 = true := by decide +kernel
theorem zs_out : z_ev zcls zzty zzdv zms 1000 (7, z_nos) zmL (z_from (z_cd zmL) 1780) 1780 zlo18 [] 224 26096 zE6 zw2 z_k0 = true := by decide +kernel
theorem zv_0 : z_ev zcls zzty zzdv zms 20000 (7, z_nos) zmL (z_from (z_cd zmL) 33) 33 zlo18 [.inl 0] 224 26096 zE6 zw2 z_k0 = true := by decide +kernel
theorem zv_1 : z_ev zcls zzty zzdv zms 20000 (7, z_nos) zmL (z_from (z_cd zmL) 33) 33 zlo18 [.inl 1] 224 26096 zE6 zw2 z_k0 = true := by decide +kernel
theorem zv_2 : z_ev zcls zzty zzdv zms 20000 (7, z_nos) zmL (z_from (z_cd zmL) 33) 33 zlo18 [.inl 2] 224 26096 zE6 zw2 z_k0 = true := by decide +kernel
theorem zv_3 : z_ev zcls zzty zzdv zms 20000 (7, z_nos) zmL (z_from (z_cd zmL) 33) 33 zlo18 [.inl 3] 224 26096 zE6 zw2 z_k0 = true := by decide +kernel
theorem zv_4 : z_ev zcls zzty zzdv zms 20000 (7, z_nos) zmL (z_from (z_cd zmL) 33) 33 zlo18 [.inl 4] 224 26096 zE6 zw2 z_k0 = true := by decide +kernel
theorem zv_5 : z_ev zcls zzty zzdv zms 20000 (7, z_nos) zmL (z_from (z_cd zmL) 33) 33 zlo18 [.inl 5] 224 26096 zE6 zw2 z_k0 = true := by decide +kernel
theorem zv_6 : z_ev zcls zzty zzdv zms 20000 (7, z_nos) zmL (z_from (z_cd zmL) 33) 33 zlo18 [.inl 6] 224 26096 zE6 zw2 z_k0 = true := by decide +kernel
theorem zv_7 : z_ev zcls zzty zzdv zms 20000 (7, z_nos) zmL (z_from (z_cd zmL) 33) 33 zlo18 [.inl 7] 224 26096 zE6 zw2 z_k0 = true := by decide +kernel
theorem zv_8 : z_ev zcls zzty zzdv zms 20000 (7, z_nos) zmL (z_from (z_cd zmL) 33) 33 zlo18 [.inl 8] 224 26096 zE6 zw2 z_k0 = true := by decide +kernel
theorem zv_9 : z_ev zcls zzty zzdv zms 20000 (7, z_nos) zmL (z_from (z_cd zmL) 33) 33 zlo18 [.inl 9] 224 26096 zE6 zw2 z_k0 = true := by decide +kernel
theorem zv_10 : z_ev zcls zzty zzdv zms 20000 (7, z_nos) zmL (z_from (z_cd zmL) 33) 33 zlo18 [.inl 10] 224 26096 zE6 zw2 z_k0 = true := by decide +kernel
theorem zv_11 : z_ev zcls zzty zzdv zms 20000 (7, z_nos) zmL (z_from (z_cd zmL) 33) 33 zlo18 [.inl 11] 224 26096 zE6 zw2 z_k0 = true := by decide +kernel
theorem zv_12 : z_ev zcls zzty zzdv zms 20000 (7, z_nos) zmL (z_from (z_cd zmL) 33) 33 zlo18 [.inl 12] 224 26096 zE6 zw2 z_k0 = true := by decide +kernel
theorem zv_13 : z_ev zcls zzty zzdv zms 20000 (7, z_nos) zmL (z_from (z_cd zmL) 33) 33 zlo18 [.inl 13] 224 26096 zE6 zw2 z_k0 = true := by decide +kernel
theorem zv_14 : z_ev zcls zzty zzdv zms 20000 (7, z_nos) zmL (z_from (z_cd zmL) 33) 33 zlo18 [.inl 14] 224 26096 zE6 zw2 z_k0 = true := by decide +kernel
theorem zv_15 : z_ev zcls zzty zzdv zms 20000 (7, z_nos) zmL (z_from (z_cd zmL) 33) 33 zlo18 [.inl 15] 224 26096 zE6 zw2 z_k0 = true := by decide +kernel
theorem zv_16 : z_ev zcls zzty zzdv zms 20000 (7, z_nos) zmL (z_from (z_cd zmL) 33) 33 zlo18 [.inl 16] 224 26096 zE6 zw2 z_k0 = true := by decide +kernel
theorem zv_17 : z_ev zcls zzty zzdv zms 20000 (7, z_nos) zmL (z_from (z_cd zmL) 33) 33 zlo18 [.inl 17] 224 26096 zE6 zw2 z_k0 = true := by decide +kernel
theorem zv_18 : z_ev zcls zzty zzdv zms 20000 (7, z_nos) zmL (z_from (z_cd zmL) 33) 33 zlo18 [.inl 18] 224 26096 zE6 zw2 z_k0 = true := by decide +kernel
theorem zv_19 : z_ev zcls zzty zzdv zms 20000 (7, z_nos) zmL (z_from (z_cd zmL) 33) 33 zlo18 [.inl 19] 224 26096 zE6 zw2 z_k0 = true := by decide +kernel
theorem zv_20 : z_ev zcls zzty zzdv zms 20000 (7, z_nos) zmL (z_from (z_cd zmL) 33) 33 zlo18 [.inl 20] 224 26096 zE6 zw2 z_k0 = true := by decide +kernel
theorem zv_21 : z_ev zcls zzty zzdv zms 20000 (7, z_nos) zmL (z_from (z_cd zmL) 33) 33 zlo18 [.inl 21] 224 26096 zE6 zw2 z_k0 = true := by decide +kernel
theorem zv_22 : z_ev zcls zzty zzdv zms 20000 (7, z_nos) zmL (z_from (z_cd zmL) 33) 33 zlo18 [.inl 22] 224 26096 zE6 zw2 z_k0 = true := by decide +kernel
theorem zv_23 : z_ev zcls zzty zzdv zms 20000 (7, z_nos) zmL (z_from (z_cd zmL) 33) 33 zlo18 [.inl 23] 224 26096 zE6 zw2 z_k0 = true := by decide +kernel
theorem zv_24 : z_ev zcls zzty zzdv zms 20000 (7, z_nos) zmL (z_from (z_cd zmL) 33) 33 zlo18 [.inl 24] 224 26096 zE6 zw2 z_k0 = true := by decide +kernel
theorem zv_25 : z_ev zcls zzty zzdv zms 20000 (7, z_nos) zmL (z_from (z_cd zmL) 33) 33 zlo18 [.inl 25] 224 26096 zE6 zw2 z_k0 = true := by decide +kernel
theorem zv_26 : z_ev zcls zzty zzdv zms 20000 (7, z_nos) zmL (z_from (z_cd zmL) 33) 33 zlo18 [.inl 26] 224 26096 zE6 zw2 z_k0 = true := by decide +kernel
theorem zv_27 : z_ev zcls zzty zzdv zms 20000 (7, z_nos) zmL (z_from (z_cd zmL) 33) 33 zlo18 [.inl 27] 224 26096 zE6 zw2 z_k0 = true := by decide +kernel
theorem zv_28 : z_ev zcls zzty zzdv zms 20000 (7, z_nos) zmL (z_from (z_cd zmL) 33) 33 zlo18 [.inl 28] 224 26096 zE6 zw2 z_k0 = true := by decide +kernel
theorem zv_29 : z_ev zcls zzty zzdv zms 20000 (7, z_nos) zmL (z_from (z_cd zmL) 33) 33 zlo18 [.inl 29] 224 26096 zE6 zw2 z_k0 = true := by decide +kernel
theorem zv_30 : z_ev zcls zzty zzdv zms 20000 (7, z_nos) zmL (z_from (z_cd zmL) 33) 33 zlo18 [.inl 30] 224 26096 zE6 zw2 z_k0 = true := by decide +kernel
theorem zv_31 : z_ev zcls zzty zzdv zms 20000 (7, z_nos) zmL (z_from (z_cd zmL) 33) 33 zlo18 [.inl 31] 224 26096 zE6 zw2 z_k0 = true := by decide +kernel
theorem zv_32 : z_ev zcls zzty zzdv zms 20000 (7, z_nos) zmL (z_from (z_cd zmL) 33) 33 zlo18 [.inl 32] 224 26096 zE6 zw2 z_k0 = true := by decide +kernel
theorem zv_33 : z_ev zcls zzty zzdv zms 20000 (7, z_nos) zmL (z_from (z_cd zmL) 33) 33 zlo18 [.inl 33] 224 26096 zE6 zw2 z_k0 = true := by decide +kernel
theorem zv_34 : z_ev zcls zzty zzdv zms 20000 (7, z_nos) zmL (z_from (z_cd zmL) 33) 33 zlo18 [.inl 34] 224 26096 zE6 zw2 z_k0 = true := by decide +kernel
theorem zv_35 : z_ev zcls zzty zzdv zms 20000 (7, z_nos) zmL (z_from (z_cd zmL) 33) 33 zlo18 [.inl 35] 224 26096 zE6 zw2 z_k0 = true := by decide +kernel
theorem zv_36 : z_ev zcls zzty zzdv zms 20000 (7, z_nos) zmL (z_from (z_cd zmL) 33) 33 zlo18 [.inl 36] 224 26096 zE6 zw2 z_k0 = true := by decide +kernel
theorem zv_38 : z_ev zcls zzty zzdv zms 20000 (7, z_nos) zmL (z_from (z_cd zmL) 33) 33 zlo18 [.inl 38] 224 26096 zE6 zw2 z_k0 = true := by decide +kernel
theorem zv_39 : z_ev zcls zzty zzdv zms 20000 (7, z_nos) zmL (z_from (z_cd zmL) 33) 33 zlo18 [.inl 39] 224 26096 zE6 zw2 z_k0 = true := by decide +kernel
theorem zv_40 : z_ev zcls zzty zzdv zms 20000 (7, z_nos) zmL (z_from (z_cd zmL) 33) 33 zlo18 [.inl 40] 224 26096 zE6 zw2 z_k0 = true := by decide +kernel
theorem zv_41 : z_ev zcls zzty zzdv zms 20000 (7, z_nos) zmL (z_from (z_cd zmL) 33) 33 zlo18 [.inl 41] 224 26096 zE6 zw2 z_k0 = true := by decide +kernel
theorem zv_42 : z_ev zcls zzty zzdv zms 20000 (7, z_nos) zmL (z_from (z_cd zmL) 33) 33 zlo18 [.inl 42] 224 26096 zE6 zw2 z_k0 = true := by decide +kernel
theorem zv_43 : z_ev zcls zzty zzdv zms 20000 (7, z_nos) zmL (z_from (z_cd zmL) 33) 33 zlo18 [.inl 43] 224 26096 zE6 zw2 z_k0 = true := by decide +kernel
theorem zv_44 : z_ev zcls zzty zzdv zms 20000 (7, z_nos) zmL (z_from (z_cd zmL) 33) 33 zlo18 [.inl 44] 224 26096 zE6 zw2 z_k0 = true := by decide +kernel
theorem zv_45 : z_ev zcls zzty zzdv zms 20000 (7, z_nos) zmL (z_from (z_cd zmL) 33) 33 zlo18 [.inl 45] 224 26096 zE6 zw2 z_k0 = true := by decide +kernel
theorem zv_46 : z_ev zcls zzty zzdv zms 20000 (7, z_nos) zmL (z_from (z_cd zmL) 33) 33 zlo18 [.inl 46] 224 26096 zE6 zw2 z_k0 = true := by decide +kernel
theorem zv_47 : z_ev zcls zzty zzdv zms 20000 (7, z_nos) zmL (z_from (z_cd zmL) 33) 33 zlo18 [.inl 47] 224 26096 zE6 zw2 z_k0 = true := by decide +kernel
theorem zv_48 : z_ev zcls zzty zzdv zms 20000 (7, z_nos) zmL (z_from (z_cd zmL) 33) 33 zlo18 [.inl 48] 224 26096 zE6 zw2 z_k0 = true := by decide +kernel
end
section
theorem zj_0 : z_ev zcls zzty zzdv zms 40000 (7, z_nos) zmL (z_from (z_cd zmL) 33) 33 zlo18 [.inl 37] 224 26096 [(0, 4294967295), (0, 2147483647), (0, 4294967295), (0, 4294967295), (0, 4294967295), (0, 4294967295)] zw2 z_k0 = true := by decide +kernel
theorem zj_1 : z_ev zcls zzty zzdv zms 40000 (7, z_nos) zmL (z_from (z_cd zmL) 33) 33 zlo18 [.inl 37] 224 26096 [(0, 4294967295), (2147483656, 4294967295), (0, 4294967295), (0, 4294967295), (0, 4294967295), (0, 4294967295)] zw2 z_k0 = true := by decide +kernel
theorem zj_2 : z_ev zcls zzty zzdv zms 40000 (7, z_nos) zmL (z_from (z_cd zmL) 33) 33 zlo18 [.inl 37] 224 26096 [(0, 4294967295), (2147483648, 2147483648), (0, 2147483647), (0, 4294967295), (0, 4294967295), (0, 4294967295)] zw2 z_k0 = true := by decide +kernel
theorem zj_3 : z_ev zcls zzty zzdv zms 40000 (7, z_nos) zmL (z_from (z_cd zmL) 33) 33 zlo18 [.inl 37] 224 26096 [(0, 4294967295), (2147483648, 2147483648), (2147483648, 2147483648), (0, 4294967295), (0, 4294967295), (0, 4294967295)] zw2 z_k0 = true := by decide +kernel
theorem zj_4 : z_ev zcls zzty zzdv zms 40000 (7, z_nos) zmL (z_from (z_cd zmL) 33) 33 zlo18 [.inl 37] 224 26096 [(0, 4294967295), (2147483648, 2147483648), (2147483649, 4294967295), (0, 4294967295), (0, 4294967295), (0, 4294967295)] zw2 z_k0 = true := by decide +kernel
theorem zj_5 : z_ev zcls zzty zzdv zms 40000 (7, z_nos) zmL (z_from (z_cd zmL) 33) 33 zlo18 [.inl 37] 224 26096 [(0, 4294967295), (2147483649, 2147483649), (0, 2147483648), (0, 4294967295), (0, 4294967295), (0, 4294967295)] zw2 z_k0 = true := by decide +kernel
theorem zj_6 : z_ev zcls zzty zzdv zms 40000 (7, z_nos) zmL (z_from (z_cd zmL) 33) 33 zlo18 [.inl 37] 224 26096 [(0, 4294967295), (2147483649, 2147483649), (2147483649, 2147483649), (0, 4294967295), (0, 4294967295), (0, 4294967295)] zw2 z_k0 = true := by decide +kernel
theorem zj_7 : z_ev zcls zzty zzdv zms 40000 (7, z_nos) zmL (z_from (z_cd zmL) 33) 33 zlo18 [.inl 37] 224 26096 [(0, 4294967295), (2147483649, 2147483649), (2147483650, 4294967295), (0, 4294967295), (0, 4294967295), (0, 4294967295)] zw2 z_k0 = true := by decide +kernel
theorem zj_8 : z_ev zcls zzty zzdv zms 40000 (7, z_nos) zmL (z_from (z_cd zmL) 33) 33 zlo18 [.inl 37] 224 26096 [(0, 4294967295), (2147483650, 2147483650), (0, 2147483649), (0, 4294967295), (0, 4294967295), (0, 4294967295)] zw2 z_k0 = true := by decide +kernel
theorem zj_9 : z_ev zcls zzty zzdv zms 40000 (7, z_nos) zmL (z_from (z_cd zmL) 33) 33 zlo18 [.inl 37] 224 26096 [(0, 4294967295), (2147483650, 2147483650), (2147483650, 2147483650), (0, 4294967295), (0, 4294967295), (0, 4294967295)] zw2 z_k0 = true := by decide +kernel
theorem zj_10 : z_ev zcls zzty zzdv zms 40000 (7, z_nos) zmL (z_from (z_cd zmL) 33) 33 zlo18 [.inl 37] 224 26096 [(0, 4294967295), (2147483650, 2147483650), (2147483651, 4294967295), (0, 4294967295), (0, 4294967295), (0, 4294967295)] zw2 z_k0 = true := by decide +kernel
theorem zj_11 : z_ev zcls zzty zzdv zms 40000 (7, z_nos) zmL (z_from (z_cd zmL) 33) 33 zlo18 [.inl 37] 224 26096 [(0, 4294967295), (2147483651, 2147483651), (0, 2147483650), (0, 4294967295), (0, 4294967295), (0, 4294967295)] zw2 z_k0 = true := by decide +kernel
theorem zj_12 : z_ev zcls zzty zzdv zms 40000 (7, z_nos) zmL (z_from (z_cd zmL) 33) 33 zlo18 [.inl 37] 224 26096 [(0, 4294967295), (2147483651, 2147483651), (2147483651, 2147483651), (0, 4294967295), (0, 4294967295), (0, 4294967295)] zw2 z_k0 = true := by decide +kernel
theorem zj_13 : z_ev zcls zzty zzdv zms 40000 (7, z_nos) zmL (z_from (z_cd zmL) 33) 33 zlo18 [.inl 37] 224 26096 [(0, 4294967295), (2147483651, 2147483651), (2147483652, 4294967295), (0, 4294967295), (0, 4294967295), (0, 4294967295)] zw2 z_k0 = true := by decide +kernel
theorem zj_14 : z_ev zcls zzty zzdv zms 40000 (7, z_nos) zmL (z_from (z_cd zmL) 33) 33 zlo18 [.inl 37] 224 26096 [(0, 4294967295), (2147483652, 2147483652), (0, 2147483651), (0, 4294967295), (0, 4294967295), (0, 4294967295)] zw2 z_k0 = true := by decide +kernel
theorem zj_15 : z_ev zcls zzty zzdv zms 40000 (7, z_nos) zmL (z_from (z_cd zmL) 33) 33 zlo18 [.inl 37] 224 26096 [(0, 4294967295), (2147483652, 2147483652), (2147483652, 2147483652), (0, 4294967295), (0, 4294967295), (0, 4294967295)] zw2 z_k0 = true := by decide +kernel
theorem zj_16 : z_ev zcls zzty zzdv zms 40000 (7, z_nos) zmL (z_from (z_cd zmL) 33) 33 zlo18 [.inl 37] 224 26096 [(0, 4294967295), (2147483652, 2147483652), (2147483653, 4294967295), (0, 4294967295), (0, 4294967295), (0, 4294967295)] zw2 z_k0 = true := by decide +kernel
theorem zj_17 : z_ev zcls zzty zzdv zms 40000 (7, z_nos) zmL (z_from (z_cd zmL) 33) 33 zlo18 [.inl 37] 224 26096 [(0, 4294967295), (2147483653, 2147483653), (0, 2147483652), (0, 4294967295), (0, 4294967295), (0, 4294967295)] zw2 z_k0 = true := by decide +kernel
theorem zj_18 : z_ev zcls zzty zzdv zms 40000 (7, z_nos) zmL (z_from (z_cd zmL) 33) 33 zlo18 [.inl 37] 224 26096 [(0, 4294967295), (2147483653, 2147483653), (2147483653, 2147483653), (0, 4294967295), (0, 4294967295), (0, 4294967295)] zw2 z_k0 = true := by decide +kernel
theorem zj_19 : z_ev zcls zzty zzdv zms 40000 (7, z_nos) zmL (z_from (z_cd zmL) 33) 33 zlo18 [.inl 37] 224 26096 [(0, 4294967295), (2147483653, 2147483653), (2147483654, 4294967295), (0, 4294967295), (0, 4294967295), (0, 4294967295)] zw2 z_k0 = true := by decide +kernel
theorem zj_20 : z_ev zcls zzty zzdv zms 40000 (7, z_nos) zmL (z_from (z_cd zmL) 33) 33 zlo18 [.inl 37] 224 26096 [(0, 4294967295), (2147483654, 2147483654), (0, 2147483653), (0, 4294967295), (0, 4294967295), (0, 4294967295)] zw2 z_k0 = true := by decide +kernel
theorem zj_21 : z_ev zcls zzty zzdv zms 40000 (7, z_nos) zmL (z_from (z_cd zmL) 33) 33 zlo18 [.inl 37] 224 26096 [(0, 4294967295), (2147483654, 2147483654), (2147483654, 2147483654), (0, 4294967295), (0, 4294967295), (0, 4294967295)] zw2 z_k0 = true := by decide +kernel
theorem zj_22 : z_ev zcls zzty zzdv zms 40000 (7, z_nos) zmL (z_from (z_cd zmL) 33) 33 zlo18 [.inl 37] 224 26096 [(0, 4294967295), (2147483654, 2147483654), (2147483655, 4294967295), (0, 4294967295), (0, 4294967295), (0, 4294967295)] zw2 z_k0 = true := by decide +kernel
theorem zj_23 : z_ev zcls zzty zzdv zms 40000 (7, z_nos) zmL (z_from (z_cd zmL) 33) 33 zlo18 [.inl 37] 224 26096 [(0, 4294967295), (2147483655, 2147483655), (0, 2147483654), (0, 4294967295), (0, 4294967295), (0, 4294967295)] zw2 z_k0 = true := by decide +kernel
theorem zj_24 : z_ev zcls zzty zzdv zms 40000 (7, z_nos) zmL (z_from (z_cd zmL) 33) 33 zlo18 [.inl 37] 224 26096 [(0, 4294967295), (2147483655, 2147483655), (2147483655, 2147483655), (0, 4294967295), (0, 4294967295), (0, 4294967295)] zw2 z_k0 = true := by decide +kernel
theorem zj_25 : z_ev zcls zzty zzdv zms 40000 (7, z_nos) zmL (z_from (z_cd zmL) 33) 33 zlo18 [.inl 37] 224 26096 [(0, 4294967295), (2147483655, 2147483655), (2147483656, 4294967295), (0, 4294967295), (0, 4294967295), (0, 4294967295)] zw2 z_k0 = true := by decide +kernel
end
section
def zw3 : List zAE := [.inl (11, [z_rf 1, z_rf 11, z_rf 19, z_rf 35, z_rf 42, z_rf 72, z_rf 79, z_rf 93, z_rf 102, z_rf 113, .inl 0, .inl 0]),
  .inl (4, [z_rf 2, z_rf 3, .inl 0, .inl 0, .inl 4294967287, .inl 0, .inl 0, .inl 0, .inl 0]),
  .inr (1, 2000, []),
  .inl (2, [.inl 0, .inl 0, z_rf 4, z_rf 5, z_rf 6, z_rf 7, z_rf 8, z_rf 9, z_rf 10]),
  .inr (0, 24, []),
  .inr (0, 24, []),
  .inr (0, 24, []),
  .inr (0, 24, []),
  .inr (0, 72, []),
  .inr (0, 72, []),
  .inr (0, 16, []),
  .inl (2, [.inl 0, .inl 0, z_rf 12, z_rf 13, z_rf 14, z_rf 15, z_rf 16, z_rf 17, z_rf 18]),
  .inr (0, 24, []),
  .inr (0, 24, []),
  .inr (0, 24, []),
  .inr (0, 24, []),
  .inr (0, 72, []),
  .inr (0, 72, []),
  .inr (0, 16, []),
  .inl (9, [z_rf 11, .inl 0, z_rf 20, z_rf 21, z_rf 22, z_rf 23, z_rf 24, z_rf 25, z_rf 26, z_rf 27, z_rf 28, z_rf 29, z_rf 30, z_rf 31, z_rf 32, z_rf 33, z_rf 34, .inl 0, .inl 0, .inl 0]),
  .inr (0, 40, []),
  .inr (0, 40, []),
  .inr (0, 40, []),
  .inr (0, 40, []),
  .inr (0, 40, []),
  .inr (0, 320, []),
  .inr (0, 680, []),
  .inr (0, 360, []),
  .inr (0, 360, []),
  .inr (0, 360, []),
  .inr (0, 40, []),
  .inr (0, 8, []),
  .inr (0, 8, []),
  .inr (0, 17, []),
  .inr (0, 17, []),
  .inl (5, [z_rf 11, z_rf 36, z_rf 37, z_rf 38, z_rf 39, z_rf 40, z_rf 41, .inl 4294967295, .inl 0, .inl 0]),
  .inr (0, 24, [.inl 4294967295, .inl 4294967295, .inl 4294967295, .inl 4294967295, .inl 4294967295, .inl 4294967295, .inl 4294967295, .inl 4294967295, .inl 4294967295, .inl 4294967295, .inl 4294967295, .inl 4294967295, .inl 4294967295, .inl 4294967295, .inl 4294967295, .inl 4294967295, .inl 4294967295, .inl 4294967295, .inl 4294967295, .inl 4294967295, .inl 4294967295, .inl 4294967295, .inl 4294967295, .inl 4294967295]),
  .inr (0, 24, [.inl 4294967295, .inl 4294967295, .inl 4294967295, .inl 4294967295, .inl 4294967295, .inl 4294967295, .inl 4294967295, .inl 4294967295, .inl 4294967295, .inl 4294967295, .inl 4294967295, .inl 4294967295, .inl 4294967295, .inl 4294967295, .inl 4294967295, .inl 4294967295, .inl 4294967295, .inl 4294967295, .inl 4294967295, .inl 4294967295, .inl 4294967295, .inl 4294967295, .inl 4294967295, .inl 4294967295]),
  .inr (0, 24, [.inl 3, .inl 3, .inl 3, .inl 3, .inl 3, .inl 3, .inl 3, .inl 3, .inl 3, .inl 3, .inl 3, .inl 3, .inl 3, .inl 3, .inl 3, .inl 3, .inl 3, .inl 3, .inl 3, .inl 3, .inl 3, .inl 3, .inl 3, .inl 3]),
  .inr (0, 24, [.inl 3, .inl 3, .inl 3, .inl 3, .inl 3, .inl 3, .inl 3, .inl 3, .inl 3, .inl 3, .inl 3, .inl 3, .inl 3, .inl 3, .inl 3, .inl 3, .inl 3, .inl 3, .inl 3, .inl 3, .inl 3, .inl 3, .inl 3, .inl 3]),
  .inr (0, 24, [.inl 0, .inl 0, .inl 0, .inl 0, .inl 0, .inl 0, .inl 0, .inl 0, .inl 0, .inl 0, .inl 0, .inl 0, .inl 0, .inl 0, .inl 0, .inl 0, .inl 0, .inl 0, .inl 0, .inl 0, .inl 0, .inl 0, .inl 0, .inl 0]),
  .inr (0, 24, [.inl 0, .inl 0, .inl 0, .inl 0, .inl 0, .inl 0, .inl 0, .inl 0, .inl 0, .inl 0, .inl 0, .inl 0, .inl 0, .inl 0, .inl 0, .inl 0, .inl 0, .inl 0, .inl 0, .inl 0, .inl 0, .inl 0, .inl 0, .inl 0]),
  .inl (8, [z_rf 19, z_rf 35, z_rf 43, z_rf 44, .inl 0, .inl 0, .inl 0, .inl 0, .inl 0, .inl 0]),
  .inr (4, 3, [z_rf 45, z_rf 54, z_rf 63]),
  .inr (0, 40, [.inl 0, .inl 0, .inl 0, .inl 0, .inl 0, .inl 0, .inl 0, .inl 0, .inl 0, .inl 0, .inl 0, .inl 0, .inl 0, .inl 0, .inl 0, .inl 0, .inl 0, .inl 0, .inl 0, .inl 0, .inl 0, .inl 0, .inl 0, .inl 0, .inl 0, .inl 0, .inl 0, .inl 0, .inl 0, .inl 0, .inl 0, .inl 0, .inl 0, .inl 0, .inl 0, .inl 0, .inl 0, .inl 0, .inl 0, .inl 0]),
  .inl (0, [z_rf 19, z_rf 35, z_rf 46, z_rf 47, z_rf 48, z_rf 49, z_rf 50, z_rf 51, z_lng, .inl 0, z_rf 52, z_rf 53, .inl 0, .inl 1]),
  .inr (0, 40, [.inl 0, .inl 0, .inl 0, .inl 0, .inl 0, .inl 0, .inl 0, .inl 0, .inl 0, .inl 0, .inl 0, .inl 0, .inl 0, .inl 0, .inl 0, .inl 0, .inl 0, .inl 0, .inl 0, .inl 0, .inl 0, .inl 0, .inl 0, .inl 0, .inl 0, .inl 0, .inl 0, .inl 0, .inl 0, .inl 0, .inl 0, .inl 0, .inl 0, .inl 0, .inl 0, .inl 0, .inl 0, .inl 0, .inl 0, .inl 0]),
  .inr (0, 40, [.inl 0, .inl 0, .inl 0, .inl 0, .inl 0, .inl 0, .inl 0, .inl 0, .inl 0, .inl 0, .inl 0, .inl 0, .inl 0, .inl 0, .inl 0, .inl 0, .inl 0, .inl 0, .inl 0, .inl 0, .inl 0, .inl 0, .inl 0, .inl 0, .inl 0, .inl 0, .inl 0, .inl 0, .inl 0, .inl 0, .inl 0, .inl 0, .inl 0, .inl 0, .inl 0, .inl 0, .inl 0, .inl 0, .inl 0, .inl 0]),
  .inr (0, 40, [.inl 0, .inl 0, .inl 0, .inl 0, .inl 0, .inl 0, .inl 0, .inl 0, .inl 0, .inl 0, .inl 0, .inl 0, .inl 0, .inl 0, .inl 0, .inl 0, .inl 0, .inl 0, .inl 0, .inl 0, .inl 0, .inl 0, .inl 0, .inl 0, .inl 0, .inl 0, .inl 0, .inl 0, .inl 0, .inl 0, .inl 0, .inl 0, .inl 0, .inl 0, .inl 0, .inl 0, .inl 0, .inl 0, .inl 0, .inl 0]),
  .inr (0, 40, [.inl 0, .inl 0, .inl 0, .inl 0, .inl 0, .inl 0, .inl 0, .inl 0, .inl 0, .inl 0, .inl 0, .inl 0, .inl 0, .inl 0, .inl 0, .inl 0, .inl 0, .inl 0, .inl 0, .inl 0, .inl 0, .inl 0, .inl 0, .inl 0, .inl 0, .inl 0, .inl 0, .inl 0, .inl 0, .inl 0, .inl 0, .inl 0, .inl 0, .inl 0, .inl 0, .inl 0, .inl 0, .inl 0, .inl 0, .inl 0]),
  .inr (2, 40, [.inl 0, .inl 0, .inl 0, .inl 0, .inl 0, .inl 0, .inl 0, .inl 0, .inl 0, .inl 0, .inl 0, .inl 0, .inl 0, .inl 0, .inl 0, .inl 0, .inl 0, .inl 0, .inl 0, .inl 0, .inl 0, .inl 0, .inl 0, .inl 0, .inl 0, .inl 0, .inl 0, .inl 0, .inl 0, .inl 0, .inl 0, .inl 0, .inl 0, .inl 0, .inl 0, .inl 0, .inl 0, .inl 0, .inl 0, .inl 0]),
  .inr (2, 40, [.inl 0, .inl 0, .inl 0, .inl 0, .inl 0, .inl 0, .inl 0, .inl 0, .inl 0, .inl 0, .inl 0, .inl 0, .inl 0, .inl 0, .inl 0, .inl 0, .inl 0, .inl 0, .inl 0, .inl 0, .inl 0, .inl 0, .inl 0, .inl 0, .inl 0, .inl 0, .inl 0, .inl 0, .inl 0, .inl 0, .inl 0, .inl 0, .inl 0, .inl 0, .inl 0, .inl 0, .inl 0, .inl 0, .inl 0, .inl 0]),
  .inr (0, 42, [.inl 0, .inl 0]),
  .inr (0, 42, []),
  .inl (0, [z_rf 19, z_rf 35, z_rf 55, z_rf 56, z_rf 57, z_rf 58, z_rf 59, z_rf 60, z_lng, .inl 0, z_rf 61, z_rf 62, .inl 0, .inl 1]),
  .inr (0, 40, [.inl 0, .inl 0, .inl 0, .inl 0, .inl 0, .inl 0, .inl 0, .inl 0, .inl 0, .inl 0, .inl 0, .inl 0, .inl 0, .inl 0, .inl 0, .inl 0, .inl 0, .inl 0, .inl 0, .inl 0, .inl 0, .inl 0, .inl 0, .inl 0, .inl 0, .inl 0, .inl 0, .inl 0, .inl 0, .inl 0, .inl 0, .inl 0, .inl 0, .inl 0, .inl 0, .inl 0, .inl 0, .inl 0, .inl 0, .inl 0]),
  .inr (0, 40, [.inl 0, .inl 0, .inl 0, .inl 0, .inl 0, .inl 0, .inl 0, .inl 0, .inl 0, .inl 0, .inl 0, .inl 0, .inl 0, .inl 0, .inl 0, .inl 0, .inl 0, .inl 0, .inl 0, .inl 0, .inl 0, .inl 0, .inl 0, .inl 0, .inl 0, .inl 0, .inl 0, .inl 0, .inl 0, .inl 0, .inl 0, .inl 0, .inl 0, .inl 0, .inl 0, .inl 0, .inl 0, .inl 0, .inl 0, .inl 0]),
  .inr (0, 40, [.inl 0, .inl 0, .inl 0, .inl 0, .inl 0, .inl 0, .inl 0, .inl 0, .inl 0, .inl 0, .inl 0, .inl 0, .inl 0, .inl 0, .inl 0, .inl 0, .inl 0, .inl 0, .inl 0, .inl 0, .inl 0, .inl 0, .inl 0, .inl 0, .inl 0, .inl 0, .inl 0, .inl 0, .inl 0, .inl 0, .inl 0, .inl 0, .inl 0, .inl 0, .inl 0, .inl 0, .inl 0, .inl 0, .inl 0, .inl 0]),
  .inr (0, 40, [.inl 0, .inl 0, .inl 0, .inl 0, .inl 0, .inl 0, .inl 0, .inl 0, .inl 0, .inl 0, .inl 0, .inl 0, .inl 0, .inl 0, .inl 0, .inl 0, .inl 0, .inl 0, .inl 0, .inl 0, .inl 0, .inl 0, .inl 0, .inl 0, .inl 0, .inl 0, .inl 0, .inl 0, .inl 0, .inl 0, .inl 0, .inl 0, .inl 0, .inl 0, .inl 0, .inl 0, .inl 0, .inl 0, .inl 0, .inl 0]),
  .inr (2, 40, [.inl 0, .inl 0, .inl 0, .inl 0, .inl 0, .inl 0, .inl 0, .inl 0, .inl 0, .inl 0, .inl 0, .inl 0, .inl 0, .inl 0, .inl 0, .inl 0, .inl 0, .inl 0, .inl 0, .inl 0, .inl 0, .inl 0, .inl 0, .inl 0, .inl 0, .inl 0, .inl 0, .inl 0, .inl 0, .inl 0, .inl 0, .inl 0, .inl 0, .inl 0, .inl 0, .inl 0, .inl 0, .inl 0, .inl 0, .inl 0]),
  .inr (2, 40, [.inl 0, .inl 0, .inl 0, .inl 0, .inl 0, .inl 0, .inl 0, .inl 0, .inl 0, .inl 0, .inl 0, .inl 0, .inl 0, .inl 0, .inl 0, .inl 0, .inl 0, .inl 0, .inl 0, .inl 0, .inl 0, .inl 0, .inl 0, .inl 0, .inl 0, .inl 0, .inl 0, .inl 0, .inl 0, .inl 0, .inl 0, .inl 0, .inl 0, .inl 0, .inl 0, .inl 0, .inl 0, .inl 0, .inl 0, .inl 0]),
  .inr (0, 42, [.inl 0, .inl 0]),
  .inr (0, 42, []),
  .inl (0, [z_rf 19, z_rf 35, z_rf 64, z_rf 65, z_rf 66, z_rf 67, z_rf 68, z_rf 69, z_lng, .inl 0, z_rf 70, z_rf 71, .inl 0, .inl 1]),
  .inr (0, 40, [.inl 0, .inl 0, .inl 0, .inl 0, .inl 0, .inl 0, .inl 0, .inl 0, .inl 0, .inl 0, .inl 0, .inl 0, .inl 0, .inl 0, .inl 0, .inl 0, .inl 0, .inl 0, .inl 0, .inl 0, .inl 0, .inl 0, .inl 0, .inl 0, .inl 0, .inl 0, .inl 0, .inl 0, .inl 0, .inl 0, .inl 0, .inl 0, .inl 0, .inl 0, .inl 0, .inl 0, .inl 0, .inl 0, .inl 0, .inl 0]),
  .inr (0, 40, [.inl 0, .inl 0, .inl 0, .inl 0, .inl 0, .inl 0, .inl 0, .inl 0, .inl 0, .inl 0, .inl 0, .inl 0, .inl 0, .inl 0, .inl 0, .inl 0, .inl 0, .inl 0, .inl 0, .inl 0, .inl 0, .inl 0, .inl 0, .inl 0, .inl 0, .inl 0, .inl 0, .inl 0, .inl 0, .inl 0, .inl 0, .inl 0, .inl 0, .inl 0, .inl 0, .inl 0, .inl 0, .inl 0, .inl 0, .inl 0]),
  .inr (0, 40, [.inl 0, .inl 0, .inl 0, .inl 0, .inl 0, .inl 0, .inl 0, .inl 0, .inl 0, .inl 0, .inl 0, .inl 0, .inl 0, .inl 0, .inl 0, .inl 0, .inl 0, .inl 0, .inl 0, .inl 0, .inl 0, .inl 0, .inl 0, .inl 0, .inl 0, .inl 0, .inl 0, .inl 0, .inl 0, .inl 0, .inl 0, .inl 0, .inl 0, .inl 0, .inl 0, .inl 0, .inl 0, .inl 0, .inl 0, .inl 0]),
  .inr (0, 40, [.inl 0, .inl 0, .inl 0, .inl 0, .inl 0, .inl 0, .inl 0, .inl 0, .inl 0, .inl 0, .inl 0, .inl 0, .inl 0, .inl 0, .inl 0, .inl 0, .inl 0, .inl 0, .inl 0, .inl 0, .inl 0, .inl 0, .inl 0, .inl 0, .inl 0, .inl 0, .inl 0, .inl 0, .inl 0, .inl 0, .inl 0, .inl 0, .inl 0, .inl 0, .inl 0, .inl 0, .inl 0, .inl 0, .inl 0, .inl 0]),
  .inr (2, 40, [.inl 0, .inl 0, .inl 0, .inl 0, .inl 0, .inl 0, .inl 0, .inl 0, .inl 0, .inl 0, .inl 0, .inl 0, .inl 0, .inl 0, .inl 0, .inl 0, .inl 0, .inl 0, .inl 0, .inl 0, .inl 0, .inl 0, .inl 0, .inl 0, .inl 0, .inl 0, .inl 0, .inl 0, .inl 0, .inl 0, .inl 0, .inl 0, .inl 0, .inl 0, .inl 0, .inl 0, .inl 0, .inl 0, .inl 0, .inl 0]),
  .inr (2, 40, [.inl 0, .inl 0, .inl 0, .inl 0, .inl 0, .inl 0, .inl 0, .inl 0, .inl 0, .inl 0, .inl 0, .inl 0, .inl 0, .inl 0, .inl 0, .inl 0, .inl 0, .inl 0, .inl 0, .inl 0, .inl 0, .inl 0, .inl 0, .inl 0, .inl 0, .inl 0, .inl 0, .inl 0, .inl 0, .inl 0, .inl 0, .inl 0, .inl 0, .inl 0, .inl 0, .inl 0, .inl 0, .inl 0, .inl 0, .inl 0]),
  .inr (0, 42, [.inl 0, .inl 0]),
  .inr (0, 42, []),
  .inl (10, [z_rf 11, z_rf 73, z_rf 74, z_rf 75, .inl 0, z_rf 76, .inl 0, .inl 0, .inl 0, z_rf 77, z_rf 78, .inl 0, .inl 4294967287]),
  .inr (0, 24, [.inl 0, .inl 0, .inl 0, .inl 0, .inl 0, .inl 0, .inl 0, .inl 0, .inl 0, .inl 0, .inl 0, .inl 0, .inl 0, .inl 0, .inl 0, .inl 0, .inl 0, .inl 0, .inl 0, .inl 0, .inl 0, .inl 0, .inl 0, .inl 0]),
  .inr (0, 24, [.inl 0, .inl 0, .inl 0, .inl 0, .inl 0, .inl 0, .inl 0, .inl 0, .inl 0, .inl 0, .inl 0, .inl 0, .inl 0, .inl 0, .inl 0, .inl 0, .inl 0, .inl 0, .inl 0, .inl 0, .inl 0, .inl 0, .inl 0, .inl 0]),
  .inr (0, 24, [.inl 0, .inl 0, .inl 0, .inl 0, .inl 0, .inl 0, .inl 0, .inl 0, .inl 0, .inl 0, .inl 0, .inl 0, .inl 0, .inl 0, .inl 0, .inl 0, .inl 0, .inl 0, .inl 0, .inl 0, .inl 0, .inl 0, .inl 0, .inl 0]),
  .inr (11, 200, []),
  .inr (0, 128, []),
  .inr (0, 128, []),
  .inl (6, [z_rf 80, z_rf 81, .inl 0, z_rf 82, z_rf 83, z_rf 84, z_rf 85, z_rf 86, .inl 0, .inl 0, z_rf 87, z_rf 88, z_rf 89, z_rf 90, z_rf 91, z_rf 92]),
  .inr (0, 8, [.inl 5, .inl 5, .inl 5, .inl 5, .inl 5, .inl 5, .inl 5, .inl 5]),
  .inr (0, 8, [.inl 0, .inl 0, .inl 0, .inl 0, .inl 0, .inl 0, .inl 0, .inl 0]),
  .inr (0, 12, []),
  .inr (0, 12, []),
  .inr (0, 96, []),
  .inr (0, 96, []),
  .inr (0, 96, []),
  .inr (0, 400, []),
  .inr (0, 400, []),
  .inr (0, 400, []),
  .inr (0, 400, []),
  .inr (0, 400, []),
  .inr (0, 400, []),
  .inl (1, [z_rf 79, .inl 0, z_rf 94, z_rf 95, z_rf 96, z_rf 97, z_rf 98, z_rf 99, z_rf 100, z_rf 101]),
  .inr (0, 148, []),
  .inr (0, 148, []),
  .inr (0, 148, []),
  .inr (3, 148, []),
  .inr (0, 96, []),
  .inr (3, 96, []),
  .inr (0, 96, []),
  .inr (3, 96, []),
  .inl (3, [.inl 0, .inl 0, z_rf 103, z_rf 104, z_rf 105, z_rf 106, z_rf 107, z_rf 108, z_rf 109, z_rf 110, z_rf 111, z_rf 112, .inl 0]),
  .inr (0, 7, []),
  .inr (0, 7, []),
  .inr (0, 7, []),
  .inr (0, 7, []),
  .inr (0, 7, []),
  .inr (0, 7, []),
  .inr (0, 7, []),
  .inr (0, 7, []),
  .inr (0, 7, []),
  .inr (0, 7, []),
  .inr (0, 16, [.inl 0, .inl 0, .inl 0, .inl 0, .inl 0, .inl 0, .inl 0, .inl 0, .inl 0, .inl 0, .inl 0, .inl 0, .inl 0, .inl 0, .inl 0, .inl 0]),
  .inl (12, [z_rf 115, .inl 0, .inl 0, .inl 0, .inl 0, .inl 0, .inl 0, z_lng, .inl 0, .inl 4294967287, .inl 0, z_rf 116, z_rf 117, z_rf 118, z_rf 119, z_rf 120, z_rf 121, .inl 0, z_rf 122, z_rf 123, .inl 0, z_rf 124, z_rf 125, z_rf 126, z_rf 127, z_rf 128, z_rf 129, .inl 0, z_rf 130, z_rf 131, .inl 0, .inl 0, .inl 0, z_rf 132, z_rf 133, z_rf 134, z_rf 135, z_rf 136, z_rf 137, z_rf 138, z_rf 139, z_rf 140, z_rf 141, z_rf 142, z_rf 143, .inl 0, .inl 0, .inl 0, .inl 0, z_rf 144, .inl 0, .inl 0, z_rf 145, z_rf 146, z_rf 147, z_rf 148, z_rf 149, z_rf 150, z_rf 151, z_rf 152, z_rf 153, z_rf 154, z_rf 155, z_rf 156, z_rf 157, z_rf 158, z_rf 159, z_rf 160, z_rf 161, z_rf 162, z_rf 163, z_rf 164, z_rf 165, z_rf 166, z_rf 167, z_rf 168, z_rf 169, .inl 0, .inl 0, .inl 0, .inl 0, z_rf 170, .inl 0, z_rf 171, z_rf 172, z_rf 173, z_rf 174, .inl 0, .inl 0, z_rf 175, z_rf 176, z_rf 177, z_rf 178, z_rf 179, z_rf 180, z_rf 181, z_rf 182, z_rf 183, z_rf 184, z_rf 185, z_rf 186, z_rf 187, z_rf 188, z_rf 189, .inl 0, z_rf 190, .inl 0, z_rf 191, z_rf 192, z_rf 193, .inl 0, z_rf 194, z_rf 195, .inl 0, z_rf 196, z_rf 197, z_rf 198, z_rf 199, z_rf 200, z_rf 201, z_rf 202, .inl 0, z_rf 203, z_rf 204, z_rf 205, z_rf 206, .inl 0, z_rf 207, z_rf 208, z_rf 209, z_rf 210, z_rf 211, z_rf 212, .inl 0, z_rf 213, z_rf 214, z_rf 215, z_rf 216, z_rf 217, z_rf 218, z_rf 219, z_rf 220, .inl 0, z_rf 221, z_rf 222, z_rf 223]),
  .inr (1, 2000, []),
  .inr (2, 24, []),
  .inr (0, 24, []),
  .inr (0, 24, []),
  .inr (0, 24, []),
  .inr (0, 72, []),
  .inr (0, 48, []),
  .inr (0, 16, []),
  .inr (0, 16, []),
  .inr (2, 24, []),
  .inr (0, 24, []),
  .inr (0, 24, []),
  .inr (0, 24, []),
  .inr (0, 72, []),
  .inr (0, 48, []),
  .inr (0, 16, []),
  .inr (0, 16, []),
  .inr (0, 40, []),
  .inr (0, 40, []),
  .inr (0, 40, []),
  .inr (0, 320, []),
  .inr (0, 40, []),
  .inr (0, 40, []),
  .inr (0, 800, []),
  .inr (0, 800, []),
  .inr (0, 800, []),
  .inr (0, 8, []),
  .inr (0, 8, []),
  .inr (0, 8, []),
  .inr (0, 9, []),
  .inr (0, 20, []),
  .inr (0, 20, []),
  .inr (0, 20, []),
  .inr (0, 24, []),
  .inr (0, 24, [.inl 3, .inl 3, .inl 3, .inl 3, .inl 3, .inl 3, .inl 3, .inl 3, .inl 3, .inl 3, .inl 3, .inl 3, .inl 3, .inl 3, .inl 3, .inl 3, .inl 3, .inl 3, .inl 3, .inl 3, .inl 3, .inl 3, .inl 3, .inl 3]),
  .inr (0, 24, []),
  .inr (0, 24, [.inl 3, .inl 3, .inl 3, .inl 3, .inl 3, .inl 3, .inl 3, .inl 3, .inl 3, .inl 3, .inl 3, .inl 3, .inl 3, .inl 3, .inl 3, .inl 3, .inl 3, .inl 3, .inl 3, .inl 3, .inl 3, .inl 3, .inl 3, .inl 3]),
  .inr (0, 24, [.inl 4294967295, .inl 4294967295, .inl 4294967295, .inl 4294967295, .inl 4294967295, .inl 4294967295, .inl 4294967295, .inl 4294967295, .inl 4294967295, .inl 4294967295, .inl 4294967295, .inl 4294967295, .inl 4294967295, .inl 4294967295, .inl 4294967295, .inl 4294967295, .inl 4294967295, .inl 4294967295, .inl 4294967295, .inl 4294967295, .inl 4294967295, .inl 4294967295, .inl 4294967295, .inl 4294967295]),
  .inr (0, 24, [.inl 4294967295, .inl 4294967295, .inl 4294967295, .inl 4294967295, .inl 4294967295, .inl 4294967295, .inl 4294967295, .inl 4294967295, .inl 4294967295, .inl 4294967295, .inl 4294967295, .inl 4294967295, .inl 4294967295, .inl 4294967295, .inl 4294967295, .inl 4294967295, .inl 4294967295, .inl 4294967295, .inl 4294967295, .inl 4294967295, .inl 4294967295, .inl 4294967295, .inl 4294967295, .inl 4294967295]),
  .inr (0, 120, [.inl 0, .inl 0, .inl 0, .inl 0, .inl 0, .inl 0, .inl 0, .inl 0, .inl 0, .inl 0, .inl 0, .inl 0, .inl 0, .inl 0, .inl 0, .inl 0, .inl 0, .inl 0, .inl 0, .inl 0, .inl 0, .inl 0, .inl 0, .inl 0, .inl 0, .inl 0, .inl 0, .inl 0, .inl 0, .inl 0, .inl 0, .inl 0, .inl 0, .inl 0, .inl 0, .inl 0, .inl 0, .inl 0, .inl 0, .inl 0, .inl 0, .inl 0, .inl 0, .inl 0, .inl 0, .inl 0, .inl 0, .inl 0, .inl 0, .inl 0, .inl 0, .inl 0, .inl 0, .inl 0, .inl 0, .inl 0, .inl 0, .inl 0, .inl 0, .inl 0, .inl 0, .inl 0, .inl 0, .inl 0, .inl 0, .inl 0, .inl 0, .inl 0, .inl 0, .inl 0, .inl 0, .inl 0, .inl 0, .inl 0, .inl 0, .inl 0, .inl 0, .inl 0, .inl 0, .inl 0, .inl 0, .inl 0, .inl 0, .inl 0, .inl 0, .inl 0, .inl 0, .inl 0, .inl 0, .inl 0, .inl 0, .inl 0, .inl 0, .inl 0, .inl 0, .inl 0, .inl 0, .inl 0, .inl 0, .inl 0, .inl 0, .inl 0, .inl 0, .inl 0, .inl 0, .inl 0, .inl 0, .inl 0, .inl 0, .inl 0, .inl 0, .inl 0, .inl 0, .inl 0, .inl 0, .inl 0, .inl 0, .inl 0, .inl 0, .inl 0]),
  .inr (0, 120, [.inl 0, .inl 0, .inl 0, .inl 0, .inl 0, .inl 0, .inl 0, .inl 0, .inl 0, .inl 0, .inl 0, .inl 0, .inl 0, .inl 0, .inl 0, .inl 0, .inl 0, .inl 0, .inl 0, .inl 0, .inl 0, .inl 0, .inl 0, .inl 0, .inl 0, .inl 0, .inl 0, .inl 0, .inl 0, .inl 0, .inl 0, .inl 0, .inl 0, .inl 0, .inl 0, .inl 0, .inl 0, .inl 0, .inl 0, .inl 0, .inl 0, .inl 0, .inl 0, .inl 0, .inl 0, .inl 0, .inl 0, .inl 0, .inl 0, .inl 0, .inl 0, .inl 0, .inl 0, .inl 0, .inl 0, .inl 0, .inl 0, .inl 0, .inl 0, .inl 0, .inl 0, .inl 0, .inl 0, .inl 0, .inl 0, .inl 0, .inl 0, .inl 0, .inl 0, .inl 0, .inl 0, .inl 0, .inl 0, .inl 0, .inl 0, .inl 0, .inl 0, .inl 0, .inl 0, .inl 0, .inl 0, .inl 0, .inl 0, .inl 0, .inl 0, .inl 0, .inl 0, .inl 0, .inl 0, .inl 0, .inl 0, .inl 0, .inl 0, .inl 0, .inl 0, .inl 0, .inl 0, .inl 0, .inl 0, .inl 0, .inl 0, .inl 0, .inl 0, .inl 0, .inl 0, .inl 0, .inl 0, .inl 0, .inl 0, .inl 0, .inl 0, .inl 0, .inl 0, .inl 0, .inl 0, .inl 0, .inl 0, .inl 0, .inl 0, .inl 0]),
  .inr (2, 120, [.inl 0, .inl 0, .inl 0, .inl 0, .inl 0, .inl 0, .inl 0, .inl 0, .inl 0, .inl 0, .inl 0, .inl 0, .inl 0, .inl 0, .inl 0, .inl 0, .inl 0, .inl 0, .inl 0, .inl 0, .inl 0, .inl 0, .inl 0, .inl 0, .inl 0, .inl 0, .inl 0, .inl 0, .inl 0, .inl 0, .inl 0, .inl 0, .inl 0, .inl 0, .inl 0, .inl 0, .inl 0, .inl 0, .inl 0, .inl 0, .inl 0, .inl 0, .inl 0, .inl 0, .inl 0, .inl 0, .inl 0, .inl 0, .inl 0, .inl 0, .inl 0, .inl 0, .inl 0, .inl 0, .inl 0, .inl 0, .inl 0, .inl 0, .inl 0, .inl 0, .inl 0, .inl 0, .inl 0, .inl 0, .inl 0, .inl 0, .inl 0, .inl 0, .inl 0, .inl 0, .inl 0, .inl 0, .inl 0, .inl 0, .inl 0, .inl 0, .inl 0, .inl 0, .inl 0, .inl 0, .inl 0, .inl 0, .inl 0, .inl 0, .inl 0, .inl 0, .inl 0, .inl 0, .inl 0, .inl 0, .inl 0, .inl 0, .inl 0, .inl 0, .inl 0, .inl 0, .inl 0, .inl 0, .inl 0, .inl 0, .inl 0, .inl 0, .inl 0, .inl 0, .inl 0, .inl 0, .inl 0, .inl 0, .inl 0, .inl 0, .inl 0, .inl 0, .inl 0, .inl 0, .inl 0, .inl 0, .inl 0, .inl 0, .inl 0, .inl 0]),
  .inr (2, 120, [.inl 0, .inl 0, .inl 0, .inl 0, .inl 0, .inl 0, .inl 0, .inl 0, .inl 0, .inl 0, .inl 0, .inl 0, .inl 0, .inl 0, .inl 0, .inl 0, .inl 0, .inl 0, .inl 0, .inl 0, .inl 0, .inl 0, .inl 0, .inl 0, .inl 0, .inl 0, .inl 0, .inl 0, .inl 0, .inl 0, .inl 0, .inl 0, .inl 0, .inl 0, .inl 0, .inl 0, .inl 0, .inl 0, .inl 0, .inl 0, .inl 0, .inl 0, .inl 0, .inl 0, .inl 0, .inl 0, .inl 0, .inl 0, .inl 0, .inl 0, .inl 0, .inl 0, .inl 0, .inl 0, .inl 0, .inl 0, .inl 0, .inl 0, .inl 0, .inl 0, .inl 0, .inl 0, .inl 0, .inl 0, .inl 0, .inl 0, .inl 0, .inl 0, .inl 0, .inl 0, .inl 0, .inl 0, .inl 0, .inl 0, .inl 0, .inl 0, .inl 0, .inl 0, .inl 0, .inl 0, .inl 0, .inl 0, .inl 0, .inl 0, .inl 0, .inl 0, .inl 0, .inl 0, .inl 0, .inl 0, .inl 0, .inl 0, .inl 0, .inl 0, .inl 0, .inl 0, .inl 0, .inl 0, .inl 0, .inl 0, .inl 0, .inl 0, .inl 0, .inl 0, .inl 0, .inl 0, .inl 0, .inl 0, .inl 0, .inl 0, .inl 0, .inl 0, .inl 0, .inl 0, .inl 0, .inl 0, .inl 0, .inl 0, .inl 0, .inl 0]),
  .inr (0, 120, [.inl 0, .inl 0, .inl 0, .inl 0, .inl 0, .inl 0, .inl 0, .inl 0, .inl 0, .inl 0, .inl 0, .inl 0, .inl 0, .inl 0, .inl 0, .inl 0, .inl 0, .inl 0, .inl 0, .inl 0, .inl 0, .inl 0, .inl 0, .inl 0, .inl 0, .inl 0, .inl 0, .inl 0, .inl 0, .inl 0, .inl 0, .inl 0, .inl 0, .inl 0, .inl 0, .inl 0, .inl 0, .inl 0, .inl 0, .inl 0, .inl 0, .inl 0, .inl 0, .inl 0, .inl 0, .inl 0, .inl 0, .inl 0, .inl 0, .inl 0, .inl 0, .inl 0, .inl 0, .inl 0, .inl 0, .inl 0, .inl 0, .inl 0, .inl 0, .inl 0, .inl 0, .inl 0, .inl 0, .inl 0, .inl 0, .inl 0, .inl 0, .inl 0, .inl 0, .inl 0, .inl 0, .inl 0, .inl 0, .inl 0, .inl 0, .inl 0, .inl 0, .inl 0, .inl 0, .inl 0, .inl 0, .inl 0, .inl 0, .inl 0, .inl 0, .inl 0, .inl 0, .inl 0, .inl 0, .inl 0, .inl 0, .inl 0, .inl 0, .inl 0, .inl 0, .inl 0, .inl 0, .inl 0, .inl 0, .inl 0, .inl 0, .inl 0, .inl 0, .inl 0, .inl 0, .inl 0, .inl 0, .inl 0, .inl 0, .inl 0, .inl 0, .inl 0, .inl 0, .inl 0, .inl 0, .inl 0, .inl 0, .inl 0, .inl 0, .inl 0]),
  .inr (0, 120, [.inl 0, .inl 0, .inl 0, .inl 0, .inl 0, .inl 0, .inl 0, .inl 0, .inl 0, .inl 0, .inl 0, .inl 0, .inl 0, .inl 0, .inl 0, .inl 0, .inl 0, .inl 0, .inl 0, .inl 0, .inl 0, .inl 0, .inl 0, .inl 0, .inl 0, .inl 0, .inl 0, .inl 0, .inl 0, .inl 0, .inl 0, .inl 0, .inl 0, .inl 0, .inl 0, .inl 0, .inl 0, .inl 0, .inl 0, .inl 0, .inl 0, .inl 0, .inl 0, .inl 0, .inl 0, .inl 0, .inl 0, .inl 0, .inl 0, .inl 0, .inl 0, .inl 0, .inl 0, .inl 0, .inl 0, .inl 0, .inl 0, .inl 0, .inl 0, .inl 0, .inl 0, .inl 0, .inl 0, .inl 0, .inl 0, .inl 0, .inl 0, .inl 0, .inl 0, .inl 0, .inl 0, .inl 0, .inl 0, .inl 0, .inl 0, .inl 0, .inl 0, .inl 0, .inl 0, .inl 0, .inl 0, .inl 0, .inl 0, .inl 0, .inl 0, .inl 0, .inl 0, .inl 0, .inl 0, .inl 0, .inl 0, .inl 0, .inl 0, .inl 0, .inl 0, .inl 0, .inl 0, .inl 0, .inl 0, .inl 0, .inl 0, .inl 0, .inl 0, .inl 0, .inl 0, .inl 0, .inl 0, .inl 0, .inl 0, .inl 0, .inl 0, .inl 0, .inl 0, .inl 0, .inl 0, .inl 0, .inl 0, .inl 0, .inl 0, .inl 0]),
  .inr (2, 120, [.inl 0, .inl 0, .inl 0, .inl 0, .inl 0, .inl 0, .inl 0, .inl 0, .inl 0, .inl 0, .inl 0, .inl 0, .inl 0, .inl 0, .inl 0, .inl 0, .inl 0, .inl 0, .inl 0, .inl 0, .inl 0, .inl 0, .inl 0, .inl 0, .inl 0, .inl 0, .inl 0, .inl 0, .inl 0, .inl 0, .inl 0, .inl 0, .inl 0, .inl 0, .inl 0, .inl 0, .inl 0, .inl 0, .inl 0, .inl 0, .inl 0, .inl 0, .inl 0, .inl 0, .inl 0, .inl 0, .inl 0, .inl 0, .inl 0, .inl 0, .inl 0, .inl 0, .inl 0, .inl 0, .inl 0, .inl 0, .inl 0, .inl 0, .inl 0, .inl 0, .inl 0, .inl 0, .inl 0, .inl 0, .inl 0, .inl 0, .inl 0, .inl 0, .inl 0, .inl 0, .inl 0, .inl 0, .inl 0, .inl 0, .inl 0, .inl 0, .inl 0, .inl 0, .inl 0, .inl 0, .inl 0, .inl 0, .inl 0, .inl 0, .inl 0, .inl 0, .inl 0, .inl 0, .inl 0, .inl 0, .inl 0, .inl 0, .inl 0, .inl 0, .inl 0, .inl 0, .inl 0, .inl 0, .inl 0, .inl 0, .inl 0, .inl 0, .inl 0, .inl 0, .inl 0, .inl 0, .inl 0, .inl 0, .inl 0, .inl 0, .inl 0, .inl 0, .inl 0, .inl 0, .inl 0, .inl 0, .inl 0, .inl 0, .inl 0, .inl 0]),
  .inr (0, 3, [.inl 0, .inl 0, .inl 0]),
  .inr (0, 3, [.inl 0, .inl 0, .inl 0]),
  .inr (0, 3, [.inl 0, .inl 0, .inl 0]),
  .inr (0, 3, [.inl 0, .inl 0, .inl 0]),
  .inr (0, 3, [.inl 0, .inl 0, .inl 0]),
  .inr (0, 120, [.inl 0, .inl 0, .inl 0, .inl 0, .inl 0, .inl 0, .inl 0, .inl 0, .inl 0, .inl 0, .inl 0, .inl 0, .inl 0, .inl 0, .inl 0, .inl 0, .inl 0, .inl 0, .inl 0, .inl 0, .inl 0, .inl 0, .inl 0, .inl 0, .inl 0, .inl 0, .inl 0, .inl 0, .inl 0, .inl 0, .inl 0, .inl 0, .inl 0, .inl 0, .inl 0, .inl 0, .inl 0, .inl 0, .inl 0, .inl 0, .inl 0, .inl 0, .inl 0, .inl 0, .inl 0, .inl 0, .inl 0, .inl 0, .inl 0, .inl 0, .inl 0, .inl 0, .inl 0, .inl 0, .inl 0, .inl 0, .inl 0, .inl 0, .inl 0, .inl 0, .inl 0, .inl 0, .inl 0, .inl 0, .inl 0, .inl 0, .inl 0, .inl 0, .inl 0, .inl 0, .inl 0, .inl 0, .inl 0, .inl 0, .inl 0, .inl 0, .inl 0, .inl 0, .inl 0, .inl 0, .inl 0, .inl 0, .inl 0, .inl 0, .inl 0, .inl 0, .inl 0, .inl 0, .inl 0, .inl 0, .inl 0, .inl 0, .inl 0, .inl 0, .inl 0, .inl 0, .inl 0, .inl 0, .inl 0, .inl 0, .inl 0, .inl 0, .inl 0, .inl 0, .inl 0, .inl 0, .inl 0, .inl 0, .inl 0, .inl 0, .inl 0, .inl 0, .inl 0, .inl 0, .inl 0, .inl 0, .inl 0, .inl 0, .inl 0, .inl 0]),
  .inr (0, 120, [.inl 0, .inl 0, .inl 0, .inl 0, .inl 0, .inl 0, .inl 0, .inl 0, .inl 0, .inl 0, .inl 0, .inl 0, .inl 0, .inl 0, .inl 0, .inl 0, .inl 0, .inl 0, .inl 0, .inl 0, .inl 0, .inl 0, .inl 0, .inl 0, .inl 0, .inl 0, .inl 0, .inl 0, .inl 0, .inl 0, .inl 0, .inl 0, .inl 0, .inl 0, .inl 0, .inl 0, .inl 0, .inl 0, .inl 0, .inl 0, .inl 0, .inl 0, .inl 0, .inl 0, .inl 0, .inl 0, .inl 0, .inl 0, .inl 0, .inl 0, .inl 0, .inl 0, .inl 0, .inl 0, .inl 0, .inl 0, .inl 0, .inl 0, .inl 0, .inl 0, .inl 0, .inl 0, .inl 0, .inl 0, .inl 0, .inl 0, .inl 0, .inl 0, .inl 0, .inl 0, .inl 0, .inl 0, .inl 0, .inl 0, .inl 0, .inl 0, .inl 0, .inl 0, .inl 0, .inl 0, .inl 0, .inl 0, .inl 0, .inl 0, .inl 0, .inl 0, .inl 0, .inl 0, .inl 0, .inl 0, .inl 0, .inl 0, .inl 0, .inl 0, .inl 0, .inl 0, .inl 0, .inl 0, .inl 0, .inl 0, .inl 0, .inl 0, .inl 0, .inl 0, .inl 0, .inl 0, .inl 0, .inl 0, .inl 0, .inl 0, .inl 0, .inl 0, .inl 0, .inl 0, .inl 0, .inl 0, .inl 0, .inl 0, .inl 0, .inl 0]),
  .inr (2, 3, [.inl 1, .inl 1, .inl 1]),
  .inr (0, 3, [.inl 0, .inl 0, .inl 0]),
  .inr (3, 3, []),
  .inr (0, 24, [.inl 0, .inl 0, .inl 0, .inl 0, .inl 0, .inl 0, .inl 0, .inl 0, .inl 0, .inl 0, .inl 0, .inl 0, .inl 0, .inl 0, .inl 0, .inl 0, .inl 0, .inl 0, .inl 0, .inl 0, .inl 0, .inl 0, .inl 0, .inl 0]),
  .inr (0, 24, [.inl 4294967287, .inl 4294967287, .inl 4294967287, .inl 4294967287, .inl 4294967287, .inl 4294967287, .inl 4294967287, .inl 4294967287, .inl 4294967287, .inl 4294967287, .inl 4294967287, .inl 4294967287, .inl 4294967287, .inl 4294967287, .inl 4294967287, .inl 4294967287, .inl 4294967287, .inl 4294967287, .inl 4294967287, .inl 4294967287, .inl 4294967287, .inl 4294967287, .inl 4294967287, .inl 4294967287]),
  .inr (0, 24, []),
  .inr (2, 24, [.inl 0, .inl 0, .inl 0, .inl 0, .inl 0, .inl 0, .inl 0, .inl 0, .inl 0, .inl 0, .inl 0, .inl 0, .inl 0, .inl 0, .inl 0, .inl 0, .inl 0, .inl 0, .inl 0, .inl 0, .inl 0, .inl 0, .inl 0, .inl 0]),
  .inr (0, 200, []),
  .inr (0, 200, []),
  .inr (0, 200, []),
  .inr (0, 200, []),
  .inr (0, 200, []),
  .inr (0, 200, []),
  .inr (2, 200, []),
  .inr (0, 200, []),
  .inr (0, 200, []),
  .inr (0, 200, []),
  .inr (0, 8, []),
  .inr (0, 512, []),
  .inr (0, 512, []),
  .inr (2, 8, [.inl 0, .inl 0, .inl 0, .inl 0, .inl 0, .inl 0, .inl 0, .inl 0]),
  .inr (2, 24, []),
  .inr (0, 16, [.inl 0, .inl 0, .inl 0, .inl 0, .inl 0, .inl 0, .inl 0, .inl 0, .inl 0, .inl 0, .inl 0, .inl 0, .inl 0, .inl 0, .inl 0, .inl 0]),
  .inr (0, 40, [.inl 0, .inl 0, .inl 0, .inl 0, .inl 0, .inl 0, .inl 0, .inl 0, .inl 0, .inl 0, .inl 0, .inl 0, .inl 0, .inl 0, .inl 0, .inl 0, .inl 0, .inl 0, .inl 0, .inl 0, .inl 0, .inl 0, .inl 0, .inl 0, .inl 0, .inl 0, .inl 0, .inl 0, .inl 0, .inl 0, .inl 0, .inl 0, .inl 0, .inl 0, .inl 0, .inl 0, .inl 0, .inl 0, .inl 0, .inl 0]),
  .inr (0, 40, []),
  .inr (0, 40, []),
  .inr (0, 8, [.inl 5, .inl 5, .inl 5, .inl 5, .inl 5, .inl 5, .inl 5, .inl 5]),
  .inr (0, 8, [.inl 0, .inl 0, .inl 0, .inl 0, .inl 0, .inl 0, .inl 0, .inl 0]),
  .inr (0, 12, []),
  .inr (0, 12, []),
  .inr (0, 96, []),
  .inr (0, 96, []),
  .inr (0, 96, []),
  .inr (0, 480, []),
  .inr (3, 480, []),
  .inr (0, 400, []),
  .inr (0, 400, []),
  .inr (0, 400, []),
  .inr (3, 400, []),
  .inr (0, 400, []),
  .inr (0, 400, []),
  .inr (0, 400, []),
  .inr (0, 400, []),
  .inr (0, 400, []),
  .inr (0, 400, []),
  .inr (0, 7, []),
  .inr (0, 7, []),
  .inr (0, 7, []),
  .inr (0, 7, []),
  .inr (0, 7, []),
  .inr (0, 7, []),
  .inr (0, 7, []),
  .inr (0, 7, []),
  .inr (0, 7, []),
  .inr (0, 7, []),
  .inr (0, 7, [])]
def zcd1767 : List zEnt := [(1767, .aload_n 1, 0, 0, 0), (1768, .invokevirtual 216, 37, 0, 8059)]
theorem zk_1 : z_ev zcls zzty zzdv zms 60000 (7, z_eqS 1771 zlo18 [.inl 0] 224 26096 zE6 zw3) zmL zcd1767 1767 zlo18 [] 224 26096 zE6 zw2 z_k0 = true := by decide +kernel
theorem zk_2 : z_ev zcls zzty zzdv zms 60000 (7, z_nos) zmL (z_from (z_cd zmL) 1771) 1771 zlo18 [.inl 0] 224 26096 zE6 zw3 z_k0 = true := by decide +kernel
end
section
/-! THE CLAIM OUT OF ONE WALK OF THE LAW'S BODY. Your part is whole_start (and what it stands on); all else here is the same for every law, but numbers. -/
def R_law : String := "RailwayHouseLaw"
def lw_P (b : Addr) (xs : List Int32) (args : Array Value) (s : State) : Prop := args = #[.ref b] ∧ s.IntsAt b xs ∧ xs.length ≤ 6 ∧ (Jvm.Cond.and given_1 narrow_1).before args s = true
def lw_Q (_ : Array Value) (s : State) (o : Outcome) (t : State) : Prop := o = .returned (some (.int 1)) ∧ Framed s o t [] 600000 7302250
def lw_Z (below : List Frame) (a : Array Value) (s : State) : State → Prop := fun t => ∃ o, t.status = .running ∧ Ended t below o ∧ lw_Q a s o t
/-- the law's own end, with 1 on the stack, nothing written that was there before, its room as the claim has it -/
theorem lw_ret {p : Program} {l : Launch} {e : Env} {s : State} {m : MethodId} {below : List Frame} {meth : Method} {c : Code} {b : Nat} (hx : p.tables.exec = Jvm.exec) (hb : c.code = code) (hr : meth.sig.returnType = ret) (hlocks : meth.locks = false) {pc : Nat} {H : Heap} {ls : Array Slot} (hdg : decode code pc = .ok (.ireturn, 1)) : W p l e room_1 s m #[Value.ref b] below meth c H [] 600000 7302250 (lw_Z below #[Value.ref b] s) (F0 m pc ls [.int 1]) := by
  intro T hT X
  obtain ⟨fs, hret, hrun, hended, hW, hframe⟩ := X.leave (v := some (.int 1)) (hlocks := hlocks) (fun h => by rw [hr] at h; cases h)
  have hmeth' : T.vm.method? m = some meth := X.method'
  refine ⟨T.setFrames fs, ?_, .returned (some (.int 1)), hrun, hended, rfl, ⟨_, rfl⟩, hW, hframe⟩
  jvm_step X.here [X.here.top, hx, hb, hdg, hmeth', hr, ret, narrow_b1]
  (try refine ⟨rfl, ?_⟩); (try refine ⟨rfl, ?_⟩)
  first | (intro acts; rw [hret _ acts rfl rfl rfl]) | rw [hret _ _ rfl rfl rfl]
  exact Steps.refl _
/-- what holds at the law's entry: the machine, the code, the tables' words (any of lw_tbl by 'hts w (by decide +kernel)'), the script of L ints xs at the cell b, what the Statement gives of the start (any of its parts by flat_of_before) -/
def lw_At (p : Program) (s : State) (m : MethodId) (meth : Method) (c : Code) (b L : Nat) (xs : Nat → Int32) : Prop :=
  p.tables.exec = Jvm.exec ∧ c.code = code ∧ meth.sig.returnType = ret ∧ c.maxLocals = 4 ∧ s.vm.findClass R_law = some m.cls ∧ (∀ w ∈ lw_tbl, w.before #[Value.ref b] s = true) ∧ va_X b L xs s s.heap ∧ b < s.heap.size ∧ meth.locks = false ∧ (Jvm.Cond.and given_1 narrow_1).before #[Value.ref b] s = true
theorem ztb_flat : ztb.flatten = lw_tbl := by
  simp only [ztb, List.flatten_cons, List.flatten_nil, List.append_nil, lw_tbl, tables_1]
theorem z_b_lt (x : Int32) : z_b x ≤ 4294967295 := by
  unfold z_b
  omega
theorem zE6_ok (sg : Nat → Int32) : z_erel sg zE6 := by
  intro i q h
  have h1 : q ∈ zE6 := List.mem_of_getElem? h
  have h2 : q = (0, 4294967295) := by
    simpa [zE6] using h1
  subst h2
  exact ⟨Nat.zero_le _, z_b_lt _⟩
theorem z_box (sg : Nat → Int32) {a b c d : Nat} (h1 : a ≤ z_b (sg 1)) (h2 : z_b (sg 1) ≤ b) (h3 : c ≤ z_b (sg 2)) (h4 : z_b (sg 2) ≤ d) : z_erel sg [(0, 4294967295), (a, b), (c, d), (0, 4294967295), (0, 4294967295), (0, 4294967295)] := by
  intro i q h
  match i, h with
  | 0, h => cases h; exact ⟨Nat.zero_le _, z_b_lt _⟩
  | 1, h => cases h; exact ⟨h1, h2⟩
  | 2, h => cases h; exact ⟨h3, h4⟩
  | 3, h => cases h; exact ⟨Nat.zero_le _, z_b_lt _⟩
  | 4, h => cases h; exact ⟨Nat.zero_le _, z_b_lt _⟩
  | 5, h => cases h; exact ⟨Nat.zero_le _, z_b_lt _⟩
  | i + 6, h => simp at h

set_option maxRecDepth 100000 in
theorem zcd0_in : ∀ x ∈ zcd0, x ∈ z_cd zmL := fun x hx => List.drop_subset 0 _ (List.take_subset 3 _ (show x ∈ ((z_cd zmL).drop 0).take 3 from hx))
set_option maxRecDepth 100000 in
theorem zcd7_in : ∀ x ∈ zcd7, x ∈ z_cd zmL := fun x hx => List.drop_subset 3 _ (List.take_subset 7 _ (show x ∈ ((z_cd zmL).drop 3).take 7 from hx))
set_option maxRecDepth 100000 in
theorem zcd18_in : ∀ x ∈ zcd18, x ∈ z_cd zmL := fun x hx => List.drop_subset 10 _ (List.take_subset 11 _ (show x ∈ ((z_cd zmL).drop 10).take 11 from hx))
set_option maxRecDepth 100000 in
theorem zcd1767_in : ∀ x ∈ zcd1767, x ∈ z_cd zmL := fun x hx => List.drop_subset 1133 _ (List.take_subset 2 _ (show x ∈ ((z_cd zmL).drop 1133).take 2 from hx))
theorem zd_33 : decode code 33 = .ok (.tableswitch 1747 0 49 #[215, 278, 301, 314, 327, 360, 393, 426, 459, 492, 525, 548, 571, 594, 627, 670, 693, 736, 769, 802, 835, 848, 871, 920, 983, 1032, 1065, 1088, 1111, 1134, 1167, 1180, 1193, 1206, 1219, 1262, 1285, 1338, 1381, 1414, 1457, 1510, 1533, 1556, 1589, 1652, 1665, 1678, 1711, 1734], 215) := by decide +kernel
set_option maxHeartbeats 4000000 in
theorem whole_start {p : Program} {e : Env} {s : State} {m : MethodId} {below : List Frame} {meth : Method} {c : Code} (l : Launch) {b L : Nat} {xs : Nat → Int32} (hL : L ≤ 6) (C0 : lw_At p s m meth c b L xs) : W p l e room_1 s m #[Value.ref b] below meth c s.heap [] 0 0 (lw_Z below #[Value.ref b] s) (entryFrame m ([Value.ref b] : List Value).toArray 4) := by
  obtain ⟨hx, hb, hr, hml, hown, hts, hX, hbl, hlocks, hgv⟩ := id C0
  have hG : ∀ w ∈ z_G ztb, w.before #[Value.ref b] s = true := fun w hw => hts w (by rw [← ztb_flat]; exact (List.mem_filter.mp hw).1)
  have hN : z_NW znw s := ⟨fun a i y h hm => va_Nw.of rfl (hts _ (by rw [← ztb_flat]; exact znw_in _ hm)), fun C hm => va_AO.of (hts _ (by rw [← ztb_flat]; exact znw_in _ hm))⟩
  have hk : ∀ ci : Nat, ∃ q : ClassId × (Nat → Nat), ∀ c : vw_C, zcls[ci]? = some c → u_Kn s c.1 c.2.1 c.2.2 q.1 q.2 := by
    intro ci
    cases hc : zcls[ci]? with
    | none => exact ⟨(m.cls, fun _ => 0), fun c h => by cases h⟩
    | some c0 =>
      obtain ⟨f1, f2, f3, f4, f5⟩ := zCF ci c0 hc
      obtain ⟨cC, iS, h⟩ := u_known (C := c0.1) (T := c0.2.1) (N := c0.2.2) (n := c0.2.2) hG f1 (hG _ f3)
      exact ⟨(cC, iS), fun c h' => by cases h'; exact h⟩
  obtain ⟨D, hD⟩ : ∃ D : va_G, ∀ (k : Nat) (q : vw_C), zcls[k]? = some q → u_Kn s q.1 q.2.1 q.2.2 (D.1 k) (D.2 k) := ⟨(fun k => (Classical.choose (hk k)).1, fun k => (Classical.choose (hk k)).2), fun k q h => Classical.choose_spec (hk k) q h⟩
  have hS : ∀ n, z_Snd ztb znw zcls zzty zzdv zms l D xs b n := z_snd zAll
  have hF : ∀ (n : Nat) (st : zKS), (n = 0 ∨ n = L + 1) → z_Fix ztb znw zcls zms xs b p room_1 s m #[Value.ref b] meth c (fun q : Nat => s.heap.size ≤ q) (n, st) zmL := fun n st hn =>
    ⟨hx, hb, hml, hown, hG, fun h => absurd h (by decide), rfl, hN, fun _ h => h, List.all_eq_true.mp zlaw_all, fun L' h => by
      have h : n = L' + 1 := h
      rcases hn with hn | hn
      · omega
      · have : L' = L := by omega
        subst this
        exact ⟨hX, hbl, Nat.not_le.mpr hbl⟩⟩
  have hE : z_End zcls l D xs b p e room_1 s m #[Value.ref b] below meth c (fun q : Nat => s.heap.size ≤ q) [] zmL (lw_Z below #[Value.ref b] s) z_k0 := by
    intro H locs cw tys ls cst pc ce sl env w r hSt hce hsl hk hret
    have hloc : ∀ q ∈ locs, s.heap.size ≤ q.base := hSt.2.2.2.1.2.2
    rcases hret with ⟨rfl, -, -, -⟩ | ⟨a, x, ty, rfl, rfl, h3, h4, h5, h6⟩ | ⟨a, v, ty, rfl, rfl, h3, h4, h5, h6, h7⟩
    · exact absurd (show false = true from hk) Bool.false_ne_true
    · match a, h3, hk with
      | .inl u, h3, hk =>
        have hu : u = 1 := Nat.eq_of_beq_eq_true hk
        subst hu
        have h3 : Value.int x = .int (nI 1) := h3
        cases h3
        exact va_forget hloc (W.widen hce hsl (lw_ret hx hb hr hlocks h6))
      | .inr _, _, hk => exact absurd (show false = true from hk) Bool.false_ne_true
    · match a, h3, hk with
      | .inl u, h3, hk =>
        have h3 : v = .int (nI u) := h3
        subst h3
        rcases h4 with h4 | ⟨q, h4⟩ <;> cases h4
      | .inr _, _, hk => exact absurd (show false = true from hk) Bool.false_ne_true
  have hno : ∀ n, z_Stop zcls l D xs b p e room_1 s m #[Value.ref b] below meth c (fun q : Nat => s.heap.size ≤ q) [] (n, z_nos) zmL (lw_Z below #[Value.ref b] s) := fun n H locs cw tys ls cst pc lo st ce sl env w _ _ _ _ h => absurd (show false = true from h) Bool.false_ne_true
  have hj : ∀ t, ∀ x ∈ z_from (z_cd zmL) t, x ∈ z_cd zmL := fun t => z_from_sub _ t
  -- behind the switch
  have hcalls : ∀ v, v < 50 → L = 6 → ∀ (H : Heap) (locs : List Loc) (cw : va_W) (tys : List (ClassId × FieldType)) (ls : Array Slot), z_St zcls D xs b s (fun q : Nat => s.heap.size ≤ q) [] H locs zw2 zE6 cw tys → z_Fr xs b cw 4 ls zlo18 [] [] → W p l e room_1 s m #[Value.ref b] below meth c H locs 224 26096 (lw_Z below #[Value.ref b] s) (F0 m 33 ls [.int (nI v)]) := by
    intro v hv h6 H locs cw tys ls hSt hFr
    have hFr1 : z_Fr xs b cw 4 ls zlo18 [.inl v] [.int (nI v)] := ⟨hFr.1, rfl, trivial⟩
    have run : ∀ {n : Nat} {env : zEnv}, z_ev zcls zzty zzdv zms n (7, z_nos) zmL (z_from (z_cd zmL) 33) 33 zlo18 [.inl v] 224 26096 env zw2 z_k0 = true → z_erel xs env → W p l e room_1 s m #[Value.ref b] below meth c H locs 224 26096 (lw_Z below #[Value.ref b] s) (F0 m 33 ls [.int (nI v)]) := fun {n env} h he => hS n p e room_1 s m #[Value.ref b] below meth c _ [] (7, z_nos) zmL _ (hF 7 z_nos (Or.inr (by omega))) z_k0 hE (hno 7) H locs cw tys ls _ _ 33 zlo18 _ 224 26096 env zw2 (hj 33) ⟨hSt.1, hSt.2.1, hSt.2.2.1, hSt.2.2.2.1, hSt.2.2.2.2.1, he, hSt.2.2.2.2.2.2⟩ hFr1 (by decide) (by decide) h
    have hv' : v = 0 ∨ v = 1 ∨ v = 2 ∨ v = 3 ∨ v = 4 ∨ v = 5 ∨ v = 6 ∨ v = 7 ∨ v = 8 ∨ v = 9 ∨ v = 10 ∨ v = 11 ∨ v = 12 ∨ v = 13 ∨ v = 14 ∨ v = 15 ∨ v = 16 ∨ v = 17 ∨ v = 18 ∨ v = 19 ∨ v = 20 ∨ v = 21 ∨ v = 22 ∨ v = 23 ∨ v = 24 ∨ v = 25 ∨ v = 26 ∨ v = 27 ∨ v = 28 ∨ v = 29 ∨ v = 30 ∨ v = 31 ∨ v = 32 ∨ v = 33 ∨ v = 34 ∨ v = 35 ∨ v = 36 ∨ v = 37 ∨ v = 38 ∨ v = 39 ∨ v = 40 ∨ v = 41 ∨ v = 42 ∨ v = 43 ∨ v = 44 ∨ v = 45 ∨ v = 46 ∨ v = 47 ∨ v = 48 ∨ v = 49 := by omega
    rcases hv' with rfl | rfl | rfl | rfl | rfl | rfl | rfl | rfl | rfl | rfl | rfl | rfl | rfl | rfl | rfl | rfl | rfl | rfl | rfl | rfl | rfl | rfl | rfl | rfl | rfl | rfl | rfl | rfl | rfl | rfl | rfl | rfl | rfl | rfl | rfl | rfl | rfl | rfl | rfl | rfl | rfl | rfl | rfl | rfl | rfl | rfl | rfl | rfl | rfl | rfl
    · exact run zv_0 (zE6_ok xs)
    · exact run zv_1 (zE6_ok xs)
    · exact run zv_2 (zE6_ok xs)
    · exact run zv_3 (zE6_ok xs)
    · exact run zv_4 (zE6_ok xs)
    · exact run zv_5 (zE6_ok xs)
    · exact run zv_6 (zE6_ok xs)
    · exact run zv_7 (zE6_ok xs)
    · exact run zv_8 (zE6_ok xs)
    · exact run zv_9 (zE6_ok xs)
    · exact run zv_10 (zE6_ok xs)
    · exact run zv_11 (zE6_ok xs)
    · exact run zv_12 (zE6_ok xs)
    · exact run zv_13 (zE6_ok xs)
    · exact run zv_14 (zE6_ok xs)
    · exact run zv_15 (zE6_ok xs)
    · exact run zv_16 (zE6_ok xs)
    · exact run zv_17 (zE6_ok xs)
    · exact run zv_18 (zE6_ok xs)
    · exact run zv_19 (zE6_ok xs)
    · exact run zv_20 (zE6_ok xs)
    · exact run zv_21 (zE6_ok xs)
    · exact run zv_22 (zE6_ok xs)
    · exact run zv_23 (zE6_ok xs)
    · exact run zv_24 (zE6_ok xs)
    · exact run zv_25 (zE6_ok xs)
    · exact run zv_26 (zE6_ok xs)
    · exact run zv_27 (zE6_ok xs)
    · exact run zv_28 (zE6_ok xs)
    · exact run zv_29 (zE6_ok xs)
    · exact run zv_30 (zE6_ok xs)
    · exact run zv_31 (zE6_ok xs)
    · exact run zv_32 (zE6_ok xs)
    · exact run zv_33 (zE6_ok xs)
    · exact run zv_34 (zE6_ok xs)
    · exact run zv_35 (zE6_ok xs)
    · exact run zv_36 (zE6_ok xs)
    · by_cases h1 : z_b (xs 1) < 2147483648
      · exact run zj_0 (z_box xs (Nat.zero_le _) (by omega) (Nat.zero_le _) (z_b_lt _))
      by_cases h2 : 2147483656 ≤ z_b (xs 1)
      · exact run zj_1 (z_box xs h2 (z_b_lt _) (Nat.zero_le _) (z_b_lt _))
      have h3 : z_b (xs 1) = 2147483648 ∨ z_b (xs 1) = 2147483649 ∨ z_b (xs 1) = 2147483650 ∨ z_b (xs 1) = 2147483651 ∨ z_b (xs 1) = 2147483652 ∨ z_b (xs 1) = 2147483653 ∨ z_b (xs 1) = 2147483654 ∨ z_b (xs 1) = 2147483655 := by omega
      rcases h3 with h3 | h3 | h3 | h3 | h3 | h3 | h3 | h3
      · by_cases h4 : z_b (xs 2) < 2147483648
        · exact run zj_2 (z_box xs (by omega) (by omega) (Nat.zero_le _) (by omega))
        by_cases h5 : z_b (xs 2) = 2147483648
        · exact run zj_3 (z_box xs (by omega) (by omega) (by omega) (by omega))
        exact run zj_4 (z_box xs (by omega) (by omega) (by omega) (z_b_lt _))
      · by_cases h4 : z_b (xs 2) < 2147483649
        · exact run zj_5 (z_box xs (by omega) (by omega) (Nat.zero_le _) (by omega))
        by_cases h5 : z_b (xs 2) = 2147483649
        · exact run zj_6 (z_box xs (by omega) (by omega) (by omega) (by omega))
        exact run zj_7 (z_box xs (by omega) (by omega) (by omega) (z_b_lt _))
      · by_cases h4 : z_b (xs 2) < 2147483650
        · exact run zj_8 (z_box xs (by omega) (by omega) (Nat.zero_le _) (by omega))
        by_cases h5 : z_b (xs 2) = 2147483650
        · exact run zj_9 (z_box xs (by omega) (by omega) (by omega) (by omega))
        exact run zj_10 (z_box xs (by omega) (by omega) (by omega) (z_b_lt _))
      · by_cases h4 : z_b (xs 2) < 2147483651
        · exact run zj_11 (z_box xs (by omega) (by omega) (Nat.zero_le _) (by omega))
        by_cases h5 : z_b (xs 2) = 2147483651
        · exact run zj_12 (z_box xs (by omega) (by omega) (by omega) (by omega))
        exact run zj_13 (z_box xs (by omega) (by omega) (by omega) (z_b_lt _))
      · by_cases h4 : z_b (xs 2) < 2147483652
        · exact run zj_14 (z_box xs (by omega) (by omega) (Nat.zero_le _) (by omega))
        by_cases h5 : z_b (xs 2) = 2147483652
        · exact run zj_15 (z_box xs (by omega) (by omega) (by omega) (by omega))
        exact run zj_16 (z_box xs (by omega) (by omega) (by omega) (z_b_lt _))
      · by_cases h4 : z_b (xs 2) < 2147483653
        · exact run zj_17 (z_box xs (by omega) (by omega) (Nat.zero_le _) (by omega))
        by_cases h5 : z_b (xs 2) = 2147483653
        · exact run zj_18 (z_box xs (by omega) (by omega) (by omega) (by omega))
        exact run zj_19 (z_box xs (by omega) (by omega) (by omega) (z_b_lt _))
      · by_cases h4 : z_b (xs 2) < 2147483654
        · exact run zj_20 (z_box xs (by omega) (by omega) (Nat.zero_le _) (by omega))
        by_cases h5 : z_b (xs 2) = 2147483654
        · exact run zj_21 (z_box xs (by omega) (by omega) (by omega) (by omega))
        exact run zj_22 (z_box xs (by omega) (by omega) (by omega) (z_b_lt _))
      · by_cases h4 : z_b (xs 2) < 2147483655
        · exact run zj_23 (z_box xs (by omega) (by omega) (Nat.zero_le _) (by omega))
        by_cases h5 : z_b (xs 2) = 2147483655
        · exact run zj_24 (z_box xs (by omega) (by omega) (by omega) (by omega))
        exact run zj_25 (z_box xs (by omega) (by omega) (by omega) (z_b_lt _))
    · exact run zv_38 (zE6_ok xs)
    · exact run zv_39 (zE6_ok xs)
    · exact run zv_40 (zE6_ok xs)
    · exact run zv_41 (zE6_ok xs)
    · exact run zv_42 (zE6_ok xs)
    · exact run zv_43 (zE6_ok xs)
    · exact run zv_44 (zE6_ok xs)
    · exact run zv_45 (zE6_ok xs)
    · exact run zv_46 (zE6_ok xs)
    · exact run zv_47 (zE6_ok xs)
    · exact run zv_48 (zE6_ok xs)
    · refine lv_tableIn hx hb zd_33 (by decide) (by decide) (off := 1734) (tgt := 1767) (by decide +kernel) (by decide) ?_
      refine hS 60000 p e room_1 s m #[Value.ref b] below meth c _ [] (7, z_eqS 1771 zlo18 [.inl 0] 224 26096 zE6 zw3) zmL _ (hF 7 _ (Or.inr (by omega))) z_k0 hE ?_ H locs cw tys ls _ _ 1767 zlo18 _ 224 26096 zE6 zw2 zcd1767_in hSt hFr (by decide) (by decide) zk_1
      intro H locs cw tys ls cst pc lo st ce sl env w hSt hFr hce hsl h
      obtain ⟨rfl, rfl, rfl, rfl, rfl, rfl, rfl⟩ := z_eqS_ok h
      exact hS 60000 p e room_1 s m #[Value.ref b] below meth c _ [] (7, z_nos) zmL _ (hF 7 z_nos (Or.inr (by omega))) z_k0 hE (hno 7) H locs cw tys ls _ _ 1771 zlo18 _ _ _ zE6 zw3 (hj 1771) hSt hFr (by decide) (by decide) zk_2
  have h33 : L = 6 → ∀ (H : Heap) (locs : List Loc) (cw : va_W) (tys : List (ClassId × FieldType)) (ls : Array Slot) (x : Int32), z_St zcls D xs b s (fun q : Nat => s.heap.size ≤ q) [] H locs zw2 zE6 cw tys → z_Fr xs b cw 4 ls zlo18 [] [] → W p l e room_1 s m #[Value.ref b] below meth c H locs 224 26096 (lw_Z below #[Value.ref b] s) (F0 m 33 ls [.int x]) := by
    intro h6 H locs cw tys ls x hSt hFr
    by_cases hr : x.toInt < 0 ∨ 49 < x.toInt
    · exact lv_tableOut hx hb zd_33 hr rfl (hS 1000 p e room_1 s m #[Value.ref b] below meth c _ [] (7, z_nos) zmL _ (hF 7 z_nos (Or.inr (by omega))) z_k0 hE (hno 7) H locs cw tys ls _ _ 1780 zlo18 _ 224 26096 zE6 zw2 (hj 1780) hSt hFr (by decide) (by decide) zs_out)
    · have h1 := z_b_int x
      have h2 := z_bu_b x
      have h3 : z_bu (z_b x) < 50 := by
        unfold z_bu
        omega
      have h4 := hcalls _ h3 h6 H locs cw tys ls hSt hFr
      rw [h2] at h4
      exact h4
  have h18 : ∀ (H : Heap) (locs : List Loc) (cw : va_W) (tys : List (ClassId × FieldType)) (ls : Array Slot) (cst : List Value), z_St zcls D xs b s (fun q : Nat => s.heap.size ≤ q) [] H locs zw2 zE6 cw tys → z_Fr xs b cw 4 ls zlo18 [] cst → W p l e room_1 s m #[Value.ref b] below meth c H locs 224 26096 (lw_Z below #[Value.ref b] s) (F0 m 18 ls cst) := by
    intro H locs cw tys ls cst hSt hFr
    have hl : L = 0 ∨ L = 1 ∨ L = 2 ∨ L = 3 ∨ L = 4 ∨ L = 5 ∨ L = 6 := by omega
    have run : z_ev zcls zzty zzdv zms 1000 (L + 1, z_nos) zmL zcd18 18 zlo18 [] 224 26096 zE6 zw2 z_k0 = true → W p l e room_1 s m #[Value.ref b] below meth c H locs 224 26096 (lw_Z below #[Value.ref b] s) (F0 m 18 ls cst) := fun h => hS 1000 p e room_1 s m #[Value.ref b] below meth c _ [] (L + 1, z_nos) zmL _ (hF _ z_nos (Or.inr rfl)) z_k0 hE (hno _) H locs cw tys ls _ _ 18 zlo18 _ 224 26096 zE6 zw2 zcd18_in hSt hFr (by decide) (by decide) h
    rcases hl with rfl | rfl | rfl | rfl | rfl | rfl | rfl
    · exact run zs_18_0
    · exact run zs_18_1
    · exact run zs_18_2
    · exact run zs_18_3
    · exact run zs_18_4
    · exact run zs_18_5
    · refine hS 1000 p e room_1 s m #[Value.ref b] below meth c _ [] (7, z_eqS 33 zlo18 [z_any] 224 26096 zE6 zw2) zmL _ (hF 7 _ (Or.inr rfl)) z_k0 hE ?_ H locs cw tys ls _ _ 18 zlo18 _ 224 26096 zE6 zw2 zcd18_in hSt hFr (by decide) (by decide) zs_18_6
      intro H locs cw tys ls cst pc lo st ce sl env w hSt hFr hce hsl h
      obtain ⟨rfl, rfl, rfl, rfl, rfl, rfl, rfl⟩ := z_eqS_ok h
      obtain ⟨v1, c2, rfl, ⟨x, rfl⟩, g2⟩ := z_SR_cons hFr.2
      have := z_SR_nil g2
      subst this
      exact h33 rfl H locs cw tys ls x hSt ⟨hFr.1, trivial⟩
  have h7 : ∀ (H : Heap) (locs : List Loc) (cw : va_W) (tys : List (ClassId × FieldType)) (ls : Array Slot) (cst : List Value), z_St zcls D xs b s (fun q : Nat => s.heap.size ≤ q) [] H locs zw1 zE6 cw tys → z_Fr xs b cw 4 ls zlo7 [z_rf 0] cst → W p l e room_1 s m #[Value.ref b] below meth c H locs 114 10532 (lw_Z below #[Value.ref b] s) (F0 m 7 ls cst) := by
    intro H locs cw tys ls cst hSt hFr
    refine hS 60000 p e room_1 s m #[Value.ref b] below meth c _ [] (0, z_eqS 18 zlo18 [] 224 26096 zE6 zw2) zmL _ (hF 0 _ (Or.inl rfl)) z_k0 hE ?_ H locs cw tys ls _ _ 7 zlo7 _ 114 10532 zE6 zw1 zcd7_in hSt hFr (by decide) (by decide) zs_7
    intro H locs cw tys ls cst pc lo st ce sl env w hSt hFr hce hsl h
    obtain ⟨rfl, rfl, rfl, rfl, rfl, rfl, rfl⟩ := z_eqS_ok h
    exact h18 H locs cw tys ls cst hSt hFr
  rw [lg_entry_eq]
  have hl := lv_entry ([.ref b]) (n := 4) (Nat.le_of_ble_eq_true rfl)
  refine hS 60000 p e room_1 s m #[Value.ref b] below meth c _ [] (0, z_eqS 7 zlo7 [z_rf 0] 114 10532 zE6 zw1) zmL _ (hF 0 _ (Or.inl rfl)) z_k0 hE ?_ s.heap [] [] [] _ [] _ 0 [(0, z_scr)] [] 0 0 zE6 [] zcd0_in ⟨⟨hD, fun k q h => by simp at h⟩, fun k q h => by simp at h, ⟨fun i j p q h => by simp at h, fun k q h => by simp at h⟩, va_S.rf, trivial, zE6_ok xs, fun _ _ h => h⟩ ⟨⟨_, hl, ⟨rfl, rfl, rfl⟩, trivial⟩, trivial⟩ (by decide) (by decide) zs_0
  intro H locs cw tys ls cst pc lo st ce sl env w hSt hFr hce hsl h
  obtain ⟨rfl, rfl, rfl, rfl, rfl, rfl, rfl⟩ := z_eqS_ok h
  exact h7 H locs cw tys ls cst hSt hFr
set_option maxHeartbeats 4000000 in
theorem lw_walk (l : Launch) (b : Addr) (xs : List Int32) : MetFree l x (headSpec (Jvm.Cond.code x code maxLocals ret :: tables_1) room_1) (lw_P b xs) (fun _ _ _ _ _ => True) lw_Q := by
  refine MetFree.of_bodyS (code := code) (maxLocals := maxLocals) (ret := ret) (by decide) ?_ ?_
  · intro args s m h hn
    obtain ⟨meth, c, h1, h2, h3, h4, h5, h6, -, -⟩ := Cond.code_spec hn (atoms_spec (ws := Jvm.Cond.code x code maxLocals ret :: tables_1) h _ List.mem_cons_self)
    exact ⟨meth, c, h1, h2, h3, h4, h5, h6⟩
  · intro p e s m args below meth c s₁ B hml0 hP _
    obtain ⟨rfl, hx, hbd, hgv⟩ := hP
    obtain ⟨scr, harrAt, hlist, hof, hsmall⟩ := hx
    obtain ⟨hcb, hkn, -, -⟩ := State.arrayAt?_spec harrAt
    have hown : s.vm.findClass R_law = some m.cls := findClass_of_methodNamed B.named
    have hts0 : ∀ c ∈ (Jvm.Cond.code x code maxLocals ret :: tables_1), c.before #[Value.ref b] s = true := atoms_spec (ws := Jvm.Cond.code x code maxLocals ret :: tables_1) B.pre
    have hts : ∀ w ∈ lw_tbl, w.before #[Value.ref b] s = true := k2_hts_sels lw_privs (fun w hw => hts0 w (List.mem_cons_of_mem _ hw)) lw_privs_ok
    have hml : c.maxLocals = 4 := B.maxLocals_eq (hts0 _ List.mem_cons_self)
    have X₀ : Stand p l e room_1 s m #[Value.ref b] below meth c s₁ [] 0 0 := Stand.of_body B
    have hh0 : s₁.heap = s.heap := by rw [B.state]; rfl
    have hsz : scr.slots.size = xs.length := by rw [← Array.length_toList, hlist, List.length_map]
    have hval : ∀ j : Nat, j < xs.length → scr.slots[j]? = some (.int (xs.getD j 0)) := fun j hj => by
      rw [← Array.getElem?_toList, hlist]
      simp [hj]
    have hbl : b < s.heap.size := (Array.getElem?_eq_some_iff.mp hcb).1
    have hX : va_X b xs.length (fun j => xs.getD j 0) s s.heap := ⟨scr, hcb, hof, hkn, hsz, hval⟩
    have K : W p l e room_1 s m #[Value.ref b] below meth c s₁.heap [] 0 0 (lw_Z below #[Value.ref b] s) (entryFrame m ([Value.ref b] : List Value).toArray 4) := by
      rw [hh0]
      exact whole_start l hbd ⟨B.exec, B.bytes, B.returns, hml, hown, hts, hX, hbl, B.notSynchronized, hgv⟩
    obtain ⟨t, a1, o, b1, b2, b3⟩ := K s₁ rfl X₀
    exact ⟨t, o, a1, b1, b2, b3⟩
theorem lw_pre_spec {args : Array Value} {s : State} (h : (Jvm.Cond.and given_1 narrow_1).before args s = true) (hr : rest_1_c.before args s = true) : ∃ (b : Addr) (xs : List Int32), lw_P b xs args s := by
  have hs := flat_of_before _ h
  have hq := flat_of_before _ hr
  have hc : (Cond.count 1).before args s = true := hs _ (by decide +kernel)
  have harr : (Cond.arrayOf (.arg 0) .int).before args s = true := hs _ (by decide +kernel)
  have hle : (Cond.le (.length (.arg 0)) (.int 6)).before args s = true := hs _ (by decide +kernel)
  have hlen : (Cond.isInt (.length (.arg 0))).before args s = true := hq _ (by decide +kernel)
  have hall : (Cond.all (.arg 0) (.isInt (.elem (.arg 0) (.index 0)))).before args s = true := hq _ (by decide +kernel)
  obtain ⟨b, xs, hb, hx⟩ := State.ints_of_pre rfl harr hlen hall
  have hsm : xs.length < 2 ^ 31 := hx.choose_spec.2.2.2
  have hev : (Term.length (.arg 0)).eval args s none [] s = some (.int xs.length.toInt32) := hx.length_eval hb
  have hv := Cond.le_ints hev (show (Term.int 6).eval args s none [] s = some (.int 6) from rfl)
  have hd : xs.length.toInt32 ≤ 6 := by
    simpa [Cond.before, Cond.holds, hv] using hle
  have hN : xs.length ≤ 6 := (Int32.ofNat_le_ofNat hsm (by decide)).mp (show Int32.ofNat xs.length ≤ Int32.ofNat 6 from hd)
  exact ⟨b, xs, Cond.one_arg hc (show args[0]? = some (.ref b) from hb), hx, hN, h⟩
theorem lw_comes (l : Launch) : Comes l x (Jvm.Cond.code x code maxLocals ret :: tables_1) room_1 (fun tb e args s => Calls_1 tb e args s ∧ rest_1 tb e args s ∧ Pre_1 tb e args s)
    (fun _ _ args s o t => lw_Q args s o t) := by
  intro p e ha hc hk s m args below hf hfit hheap happ hpre
  obtain ⟨b, xs, hP⟩ := lw_pre_spec hpre.2.2 hpre.2.1
  obtain ⟨k, o, h1, h2, h3, hQ⟩ := lw_walk l b xs p e ha hc hk s m args below hf ((Spec.applies_iff_loose hf).mp happ).1 hP trivial
  exact ⟨k, o, h1, h2, h3, hQ⟩
theorem lw_frame {s t : State} {o : Outcome} {args : Array Value} (h : Framed s o t [] 600000 7302250) :
    Framed s o t (fieldLocs frame_1_writes args s ++ arrayLocs frame_1_arrays args s ++ staticLocs frame_1_statics s) 600000 7302250 := h
theorem lw_limb (L : Cond) (hL : ∀ (args : Array Value) (s t : State), L.after args s (.returned (some (.int 1))) t = true) :
    ArmFor flags0 classFile x code maxLocals ret World_1 tables_1 room_1 Calls_1 rest_1 Pre_1
      (fun tb e a s o t => postC L tb e a s o t ∧ Framed s o t (fieldLocs frame_1_writes a s ++ arrayLocs frame_1_arrays a s ++ staticLocs frame_1_statics s) 600000 7302250) := by
  intro l _ _ _ p e ha hc hk s m args below hf hfit hheap happ hpre
  obtain ⟨k, o, h1, h2, h3, rfl, hF⟩ := lw_comes l p e ha hc hk s m args below hf hfit hheap happ hpre
  exact ⟨k, _, h1, h2, h3, hL args s _, lw_frame hF⟩
theorem i_vc : Claimed_1_1 ∧ Claimed_1_2 := ⟨lw_limb limb_1_1 (fun args s t => by simp [limb_1_1, Cond.after, Cond.holds, Cond.value]), lw_limb limb_1_2 (fun args s t => Cond.after_iff.mpr (by
  first | (rw [show limb_1_2 = Cond.eq .result (.int 1) from rfl, Cond.eq_ints (x := 1) (y := 1) rfl rfl]; simp; done) | (simp [limb_1_2, Cond.value, Term.eval]; done)))⟩
end
