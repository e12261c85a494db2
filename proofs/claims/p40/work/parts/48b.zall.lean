theorem zq0 : (z_cd zm0).all (z_okE ztb znw zcls zms zm0) = true := by decide +kernel
theorem zp0 : z_okP ztb znw zcls zms zm0 := z_okP_of 3095 3093 3094 1005 (z_codeIn (ch := 3) (i := 95) (l := tables_1_3) rfl rfl) (by decide +kernel) zq0
theorem zq1 : (z_cd zm1).all (z_okE ztb znw zcls zms zm1) = true := by decide +kernel
theorem zp1 : z_okP ztb znw zcls zms zm1 := z_okP_of 3099 3097 3098 1005 (z_codeIn (ch := 3) (i := 99) (l := tables_1_3) rfl rfl) (by decide +kernel) zq1
theorem zq2 : (z_cd zm2).all (z_okE ztb znw zcls zms zm2) = true := by decide +kernel
theorem zp2 : z_okP ztb znw zcls zms zm2 := z_okP_of 3115 3114 2 1007 (z_codeIn (ch := 3) (i := 115) (l := tables_1_3) rfl rfl) (by decide +kernel) zq2
theorem zq3 : (z_cd zm3).all (z_okE ztb znw zcls zms zm3) = true := by decide +kernel
theorem zp3 : z_okP ztb znw zcls zms zm3 := z_okP_of 3123 3122 3 1007 (z_codeIn (ch := 3) (i := 123) (l := tables_1_3) rfl rfl) (by decide +kernel) zq3
theorem zq4 : (z_cd zm4).all (z_okE ztb znw zcls zms zm4) = true := by decide +kernel
theorem zp4 : z_okP ztb znw zcls zms zm4 := z_okP_of 3119 3117 3118 1007 (z_codeIn (ch := 3) (i := 119) (l := tables_1_3) rfl rfl) (by decide +kernel) zq4
theorem zq5 : (z_cd zm5).all (z_okE ztb znw zcls zms zm5) = true := by decide +kernel
theorem zp5 : z_okP ztb znw zcls zms zm5 := z_okP_of 3111 3109 3110 1007 (z_codeIn (ch := 3) (i := 111) (l := tables_1_3) rfl rfl) (by decide +kernel) zq5
theorem zq6 : (z_cd zm6).all (z_okE ztb znw zcls zms zm6) = true := by decide +kernel
theorem zp6 : z_okP ztb znw zcls zms zm6 := z_okP_of 3107 3106 1 1006 (z_codeIn (ch := 3) (i := 107) (l := tables_1_3) rfl rfl) (by decide +kernel) zq6
theorem zq7 : (z_cd zm7).all (z_okE ztb znw zcls zms zm7) = true := by decide +kernel
theorem zp7 : z_okP ztb znw zcls zms zm7 := z_okP_of 3103 3101 3102 1006 (z_codeIn (ch := 3) (i := 103) (l := tables_1_3) rfl rfl) (by decide +kernel) zq7
theorem zq8 : (z_cd zm8).all (z_okE ztb znw zcls zms zm8) = true := by decide +kernel
theorem zp8 : z_okP ztb znw zcls zms zm8 := z_okP_of 3131 3129 3130 1008 (z_codeIn (ch := 3) (i := 131) (l := tables_1_3) rfl rfl) (by decide +kernel) zq8
theorem zq9 : (z_cd zm9).all (z_okE ztb znw zcls zms zm9) = true := by decide +kernel
theorem zp9 : z_okP ztb znw zcls zms zm9 := z_okP_of 3091 3090 0 1001 (z_codeIn (ch := 3) (i := 91) (l := tables_1_3) rfl rfl) (by decide +kernel) zq9
theorem zq10_0 : (((z_cd zm10).drop 0).take 40).all (z_okE ztb znw zcls zms zm10) = true := by decide +kernel
theorem zq10_1 : (((z_cd zm10).drop 40).take 40).all (z_okE ztb znw zcls zms zm10) = true := by decide +kernel
theorem zq10_e2 : ((z_cd zm10).drop 80).all (z_okE ztb znw zcls zms zm10) = true := z_seg_end (by decide +kernel)
theorem zq10_e1 : ((z_cd zm10).drop 40).all (z_okE ztb znw zcls zms zm10) = true := z_seg (a := 40) (k := 40) zq10_1 zq10_e2
theorem zq10_e0 : ((z_cd zm10).drop 0).all (z_okE ztb znw zcls zms zm10) = true := z_seg (a := 0) (k := 40) zq10_0 zq10_e1
theorem zq10 : (z_cd zm10).all (z_okE ztb znw zcls zms zm10) = true := z_seg0 zq10_e0
theorem zp10 : z_okP ztb znw zcls zms zm10 := z_okP_of 3002 3001 0 1010 (z_codeIn (ch := 3) (i := 2) (l := tables_1_3) rfl rfl) (by decide +kernel) zq10
theorem zq11 : (z_cd zm11).all (z_okE ztb znw zcls zms zm11) = true := by decide +kernel
theorem zp11 : z_okP ztb znw zcls zms zm11 := z_okP_of 1040 1039 0 1003 (z_codeIn (ch := 1) (i := 40) (l := tables_1_1) rfl rfl) (by decide +kernel) zq11
theorem zq12_0 : (((z_cd zm12).drop 0).take 40).all (z_okE ztb znw zcls zms zm12) = true := by decide +kernel
theorem zq12_1 : (((z_cd zm12).drop 40).take 40).all (z_okE ztb znw zcls zms zm12) = true := by decide +kernel
theorem zq12_e2 : ((z_cd zm12).drop 80).all (z_okE ztb znw zcls zms zm12) = true := z_seg_end (by decide +kernel)
theorem zq12_e1 : ((z_cd zm12).drop 40).all (z_okE ztb znw zcls zms zm12) = true := z_seg (a := 40) (k := 40) zq12_1 zq12_e2
theorem zq12_e0 : ((z_cd zm12).drop 0).all (z_okE ztb znw zcls zms zm12) = true := z_seg (a := 0) (k := 40) zq12_0 zq12_e1
theorem zq12 : (z_cd zm12).all (z_okE ztb znw zcls zms zm12) = true := z_seg0 zq12_e0
theorem zp12 : z_okP ztb znw zcls zms zm12 := z_okP_of 3044 3043 0 1011 (z_codeIn (ch := 3) (i := 44) (l := tables_1_3) rfl rfl) (by decide +kernel) zq12
theorem zq13 : (z_cd zm13).all (z_okE ztb znw zcls zms zm13) = true := by decide +kernel
theorem zp13 : z_okP ztb znw zcls zms zm13 := z_okP_of 1034 1033 0 1002 (z_codeIn (ch := 1) (i := 34) (l := tables_1_1) rfl rfl) (by decide +kernel) zq13
theorem zq14 : (z_cd zm14).all (z_okE ztb znw zcls zms zm14) = true := by decide +kernel
theorem zp14 : z_okP ztb znw zcls zms zm14 := z_okP_of 1215 1214 0 1005 (z_codeIn (ch := 1) (i := 215) (l := tables_1_1) rfl rfl) (by decide +kernel) zq14
theorem zq15 : (z_cd zm15).all (z_okE ztb znw zcls zms zm15) = true := by decide +kernel
theorem zp15 : z_okP ztb znw zcls zms zm15 := z_okP_of 2173 2171 2172 1009 (z_codeIn (ch := 2) (i := 173) (l := tables_1_2) rfl rfl) (by decide +kernel) zq15
theorem zq16_0 : (((z_cd zm16).drop 0).take 40).all (z_okE ztb znw zcls zms zm16) = true := by decide +kernel
theorem zq16_1 : (((z_cd zm16).drop 40).take 40).all (z_okE ztb znw zcls zms zm16) = true := by decide +kernel
theorem zq16_e2 : ((z_cd zm16).drop 80).all (z_okE ztb znw zcls zms zm16) = true := z_seg_end (by decide +kernel)
theorem zq16_e1 : ((z_cd zm16).drop 40).all (z_okE ztb znw zcls zms zm16) = true := z_seg (a := 40) (k := 40) zq16_1 zq16_e2
theorem zq16_e0 : ((z_cd zm16).drop 0).all (z_okE ztb znw zcls zms zm16) = true := z_seg (a := 0) (k := 40) zq16_0 zq16_e1
theorem zq16 : (z_cd zm16).all (z_okE ztb znw zcls zms zm16) = true := z_seg0 zq16_e0
theorem zp16 : z_okP ztb znw zcls zms zm16 := z_okP_of 2168 2167 0 1009 (z_codeIn (ch := 2) (i := 168) (l := tables_1_2) rfl rfl) (by decide +kernel) zq16
theorem zq17_0 : (((z_cd zm17).drop 0).take 40).all (z_okE ztb znw zcls zms zm17) = true := by decide +kernel
theorem zq17_1 : (((z_cd zm17).drop 40).take 40).all (z_okE ztb znw zcls zms zm17) = true := by decide +kernel
theorem zq17_e2 : ((z_cd zm17).drop 80).all (z_okE ztb znw zcls zms zm17) = true := z_seg_end (by decide +kernel)
theorem zq17_e1 : ((z_cd zm17).drop 40).all (z_okE ztb znw zcls zms zm17) = true := z_seg (a := 40) (k := 40) zq17_1 zq17_e2
theorem zq17_e0 : ((z_cd zm17).drop 0).all (z_okE ztb znw zcls zms zm17) = true := z_seg (a := 0) (k := 40) zq17_0 zq17_e1
theorem zq17 : (z_cd zm17).all (z_okE ztb znw zcls zms zm17) = true := z_seg0 zq17_e0
theorem zp17 : z_okP ztb znw zcls zms zm17 := z_okP_of 2024 2023 0 1007 (z_codeIn (ch := 2) (i := 24) (l := tables_1_2) rfl rfl) (by decide +kernel) zq17
theorem zq18_0 : (((z_cd zm18).drop 0).take 40).all (z_okE ztb znw zcls zms zm18) = true := by decide +kernel
theorem zq18_1 : (((z_cd zm18).drop 40).take 40).all (z_okE ztb znw zcls zms zm18) = true := by decide +kernel
theorem zq18_e2 : ((z_cd zm18).drop 80).all (z_okE ztb znw zcls zms zm18) = true := z_seg_end (by decide +kernel)
theorem zq18_e1 : ((z_cd zm18).drop 40).all (z_okE ztb znw zcls zms zm18) = true := z_seg (a := 40) (k := 40) zq18_1 zq18_e2
theorem zq18_e0 : ((z_cd zm18).drop 0).all (z_okE ztb znw zcls zms zm18) = true := z_seg (a := 0) (k := 40) zq18_0 zq18_e1
theorem zq18 : (z_cd zm18).all (z_okE ztb znw zcls zms zm18) = true := z_seg0 zq18_e0
theorem zp18 : z_okP ztb znw zcls zms zm18 := z_okP_of 2017 2016 0 1006 (z_codeIn (ch := 2) (i := 17) (l := tables_1_2) rfl rfl) (by decide +kernel) zq18
theorem zq19_0 : (((z_cd zm19).drop 0).take 40).all (z_okE ztb znw zcls zms zm19) = true := by decide +kernel
theorem zq19_1 : (((z_cd zm19).drop 40).take 40).all (z_okE ztb znw zcls zms zm19) = true := by decide +kernel
theorem zq19_e2 : ((z_cd zm19).drop 80).all (z_okE ztb znw zcls zms zm19) = true := z_seg_end (by decide +kernel)
theorem zq19_e1 : ((z_cd zm19).drop 40).all (z_okE ztb znw zcls zms zm19) = true := z_seg (a := 40) (k := 40) zq19_1 zq19_e2
theorem zq19_e0 : ((z_cd zm19).drop 0).all (z_okE ztb znw zcls zms zm19) = true := z_seg (a := 0) (k := 40) zq19_0 zq19_e1
theorem zq19 : (z_cd zm19).all (z_okE ztb znw zcls zms zm19) = true := z_seg0 zq19_e0
theorem zp19 : z_okP ztb znw zcls zms zm19 := z_okP_of 1131 1130 0 1004 (z_codeIn (ch := 1) (i := 131) (l := tables_1_1) rfl rfl) (by decide +kernel) zq19
theorem zq20_0 : (((z_cd zm20).drop 0).take 40).all (z_okE ztb znw zcls zms zm20) = true := by decide +kernel
theorem zq20_1 : (((z_cd zm20).drop 40).take 40).all (z_okE ztb znw zcls zms zm20) = true := by decide +kernel
theorem zq20_e2 : ((z_cd zm20).drop 80).all (z_okE ztb znw zcls zms zm20) = true := z_seg_end (by decide +kernel)
theorem zq20_e1 : ((z_cd zm20).drop 40).all (z_okE ztb znw zcls zms zm20) = true := z_seg (a := 40) (k := 40) zq20_1 zq20_e2
theorem zq20_e0 : ((z_cd zm20).drop 0).all (z_okE ztb znw zcls zms zm20) = true := z_seg (a := 0) (k := 40) zq20_0 zq20_e1
theorem zq20 : (z_cd zm20).all (z_okE ztb znw zcls zms zm20) = true := z_seg0 zq20_e0
theorem zp20 : z_okP ztb znw zcls zms zm20 := z_okP_of 2115 2114 0 1008 (z_codeIn (ch := 2) (i := 115) (l := tables_1_2) rfl rfl) (by decide +kernel) zq20
theorem zq21_0 : (((z_cd zm21).drop 0).take 40).all (z_okE ztb znw zcls zms zm21) = true := by decide +kernel
theorem zq21_1 : (((z_cd zm21).drop 40).take 40).all (z_okE ztb znw zcls zms zm21) = true := by decide +kernel
theorem zq21_e2 : ((z_cd zm21).drop 80).all (z_okE ztb znw zcls zms zm21) = true := z_seg_end (by decide +kernel)
theorem zq21_e1 : ((z_cd zm21).drop 40).all (z_okE ztb znw zcls zms zm21) = true := z_seg (a := 40) (k := 40) zq21_1 zq21_e2
theorem zq21_e0 : ((z_cd zm21).drop 0).all (z_okE ztb znw zcls zms zm21) = true := z_seg (a := 0) (k := 40) zq21_0 zq21_e1
theorem zq21 : (z_cd zm21).all (z_okE ztb znw zcls zms zm21) = true := z_seg0 zq21_e0
theorem zp21 : z_okP ztb znw zcls zms zm21 := z_okP_of 1026 1025 0 1001 (z_codeIn (ch := 1) (i := 26) (l := tables_1_1) rfl rfl) (by decide +kernel) zq21
theorem zq22_0 : (((z_cd zm22).drop 0).take 40).all (z_okE ztb znw zcls zms zm22) = true := by decide +kernel
theorem zq22_1 : (((z_cd zm22).drop 40).take 40).all (z_okE ztb znw zcls zms zm22) = true := by decide +kernel
theorem zq22_e2 : ((z_cd zm22).drop 80).all (z_okE ztb znw zcls zms zm22) = true := z_seg_end (by decide +kernel)
theorem zq22_e1 : ((z_cd zm22).drop 40).all (z_okE ztb znw zcls zms zm22) = true := z_seg (a := 40) (k := 40) zq22_1 zq22_e2
theorem zq22_e0 : ((z_cd zm22).drop 0).all (z_okE ztb znw zcls zms zm22) = true := z_seg (a := 0) (k := 40) zq22_0 zq22_e1
theorem zq22 : (z_cd zm22).all (z_okE ztb znw zcls zms zm22) = true := z_seg0 zq22_e0
theorem zp22 : z_okP ztb znw zcls zms zm22 := z_okP_of 6020 6019 0 1020 (z_codeIn (ch := 6) (i := 20) (l := tables_1_6) rfl rfl) (by decide +kernel) zq22
theorem zq23_0 : (((z_cd zm23).drop 0).take 40).all (z_okE ztb znw zcls zms zm23) = true := by decide +kernel
theorem zq23_1 : (((z_cd zm23).drop 40).take 40).all (z_okE ztb znw zcls zms zm23) = true := by decide +kernel
theorem zq23_e2 : ((z_cd zm23).drop 80).all (z_okE ztb znw zcls zms zm23) = true := z_seg_end (by decide +kernel)
theorem zq23_e1 : ((z_cd zm23).drop 40).all (z_okE ztb znw zcls zms zm23) = true := z_seg (a := 40) (k := 40) zq23_1 zq23_e2
theorem zq23_e0 : ((z_cd zm23).drop 0).all (z_okE ztb znw zcls zms zm23) = true := z_seg (a := 0) (k := 40) zq23_0 zq23_e1
theorem zq23 : (z_cd zm23).all (z_okE ztb znw zcls zms zm23) = true := z_seg0 zq23_e0
theorem zp23 : z_okP ztb znw zcls zms zm23 := z_okP_of 8105 8104 86 1012 (z_codeIn (ch := 8) (i := 105) (l := tables_1_8) rfl rfl) (by decide +kernel) zq23
theorem zq24 : (z_cd zm24).all (z_okE ztb znw zcls zms zm24) = true := by decide +kernel
theorem zp24 : z_okP ztb znw zcls zms zm24 := z_okP_of 8101 8100 85 1012 (z_codeIn (ch := 8) (i := 101) (l := tables_1_8) rfl rfl) (by decide +kernel) zq24
theorem zq25 : (z_cd zm25).all (z_okE ztb znw zcls zms zm25) = true := by decide +kernel
theorem zp25 : z_okP ztb znw zcls zms zm25 := z_okP_of 8097 8096 84 1012 (z_codeIn (ch := 8) (i := 97) (l := tables_1_8) rfl rfl) (by decide +kernel) zq25
theorem zq26 : (z_cd zm26).all (z_okE ztb znw zcls zms zm26) = true := by decide +kernel
theorem zp26 : z_okP ztb znw zcls zms zm26 := z_okP_of 8093 8092 0 1012 (z_codeIn (ch := 8) (i := 93) (l := tables_1_8) rfl rfl) (by decide +kernel) zq26
theorem zq27_0 : (((z_cd zm27).drop 0).take 40).all (z_okE ztb znw zcls zms zm27) = true := by decide +kernel
theorem zq27_1 : (((z_cd zm27).drop 40).take 40).all (z_okE ztb znw zcls zms zm27) = true := by decide +kernel
theorem zq27_e2 : ((z_cd zm27).drop 80).all (z_okE ztb znw zcls zms zm27) = true := z_seg_end (by decide +kernel)
theorem zq27_e1 : ((z_cd zm27).drop 40).all (z_okE ztb znw zcls zms zm27) = true := z_seg (a := 40) (k := 40) zq27_1 zq27_e2
theorem zq27_e0 : ((z_cd zm27).drop 0).all (z_okE ztb znw zcls zms zm27) = true := z_seg (a := 0) (k := 40) zq27_0 zq27_e1
theorem zq27 : (z_cd zm27).all (z_okE ztb znw zcls zms zm27) = true := z_seg0 zq27_e0
theorem zp27 : z_okP ztb znw zcls zms zm27 := z_okP_of 8090 8089 83 1012 (z_codeIn (ch := 8) (i := 90) (l := tables_1_8) rfl rfl) (by decide +kernel) zq27
theorem zq28 : (z_cd zm28).all (z_okE ztb znw zcls zms zm28) = true := by decide +kernel
theorem zp28 : z_okP ztb znw zcls zms zm28 := z_okP_of 8086 8085 82 1012 (z_codeIn (ch := 8) (i := 86) (l := tables_1_8) rfl rfl) (by decide +kernel) zq28
theorem zq29 : (z_cd zm29).all (z_okE ztb znw zcls zms zm29) = true := by decide +kernel
theorem zp29 : z_okP ztb znw zcls zms zm29 := z_okP_of 8109 8108 87 1012 (z_codeIn (ch := 8) (i := 109) (l := tables_1_8) rfl rfl) (by decide +kernel) zq29
theorem zq30_0 : (((z_cd zm30).drop 0).take 40).all (z_okE ztb znw zcls zms zm30) = true := by decide +kernel
theorem zq30_1 : (((z_cd zm30).drop 40).take 40).all (z_okE ztb znw zcls zms zm30) = true := by decide +kernel
theorem zq30_2 : (((z_cd zm30).drop 80).take 40).all (z_okE ztb znw zcls zms zm30) = true := by decide +kernel
theorem zq30_e3 : ((z_cd zm30).drop 120).all (z_okE ztb znw zcls zms zm30) = true := z_seg_end (by decide +kernel)
theorem zq30_e2 : ((z_cd zm30).drop 80).all (z_okE ztb znw zcls zms zm30) = true := z_seg (a := 80) (k := 40) zq30_2 zq30_e3
theorem zq30_e1 : ((z_cd zm30).drop 40).all (z_okE ztb znw zcls zms zm30) = true := z_seg (a := 40) (k := 40) zq30_1 zq30_e2
theorem zq30_e0 : ((z_cd zm30).drop 0).all (z_okE ztb znw zcls zms zm30) = true := z_seg (a := 0) (k := 40) zq30_0 zq30_e1
theorem zq30 : (z_cd zm30).all (z_okE ztb znw zcls zms zm30) = true := z_seg0 zq30_e0
theorem zp30 : z_okP ztb znw zcls zms zm30 := z_okP_of 8082 8081 81 1012 (z_codeIn (ch := 8) (i := 82) (l := tables_1_8) rfl rfl) (by decide +kernel) zq30
theorem zq31_0 : (((z_cd zm31).drop 0).take 40).all (z_okE ztb znw zcls zms zm31) = true := by decide +kernel
theorem zq31_1 : (((z_cd zm31).drop 40).take 40).all (z_okE ztb znw zcls zms zm31) = true := by decide +kernel
theorem zq31_e2 : ((z_cd zm31).drop 80).all (z_okE ztb znw zcls zms zm31) = true := z_seg_end (by decide +kernel)
theorem zq31_e1 : ((z_cd zm31).drop 40).all (z_okE ztb znw zcls zms zm31) = true := z_seg (a := 40) (k := 40) zq31_1 zq31_e2
theorem zq31_e0 : ((z_cd zm31).drop 0).all (z_okE ztb znw zcls zms zm31) = true := z_seg (a := 0) (k := 40) zq31_0 zq31_e1
theorem zq31 : (z_cd zm31).all (z_okE ztb znw zcls zms zm31) = true := z_seg0 zq31_e0
theorem zp31 : z_okP ztb znw zcls zms zm31 := z_okP_of 8078 8077 80 1012 (z_codeIn (ch := 8) (i := 78) (l := tables_1_8) rfl rfl) (by decide +kernel) zq31
theorem zq32_0 : (((z_cd zm32).drop 0).take 40).all (z_okE ztb znw zcls zms zm32) = true := by decide +kernel
theorem zq32_1 : (((z_cd zm32).drop 40).take 40).all (z_okE ztb znw zcls zms zm32) = true := by decide +kernel
theorem zq32_2 : (((z_cd zm32).drop 80).take 40).all (z_okE ztb znw zcls zms zm32) = true := by decide +kernel
theorem zq32_3 : (((z_cd zm32).drop 120).take 40).all (z_okE ztb znw zcls zms zm32) = true := by decide +kernel
theorem zq32_4 : (((z_cd zm32).drop 160).take 40).all (z_okE ztb znw zcls zms zm32) = true := by decide +kernel
theorem zq32_5 : (((z_cd zm32).drop 200).take 40).all (z_okE ztb znw zcls zms zm32) = true := by decide +kernel
theorem zq32_6 : (((z_cd zm32).drop 240).take 40).all (z_okE ztb znw zcls zms zm32) = true := by decide +kernel
theorem zq32_7 : (((z_cd zm32).drop 280).take 40).all (z_okE ztb znw zcls zms zm32) = true := by decide +kernel
theorem zq32_8 : (((z_cd zm32).drop 320).take 40).all (z_okE ztb znw zcls zms zm32) = true := by decide +kernel
theorem zq32_9 : (((z_cd zm32).drop 360).take 40).all (z_okE ztb znw zcls zms zm32) = true := by decide +kernel
theorem zq32_10 : (((z_cd zm32).drop 400).take 40).all (z_okE ztb znw zcls zms zm32) = true := by decide +kernel
theorem zq32_11 : (((z_cd zm32).drop 440).take 40).all (z_okE ztb znw zcls zms zm32) = true := by decide +kernel
theorem zq32_e12 : ((z_cd zm32).drop 480).all (z_okE ztb znw zcls zms zm32) = true := z_seg_end (by decide +kernel)
theorem zq32_e11 : ((z_cd zm32).drop 440).all (z_okE ztb znw zcls zms zm32) = true := z_seg (a := 440) (k := 40) zq32_11 zq32_e12
theorem zq32_e10 : ((z_cd zm32).drop 400).all (z_okE ztb znw zcls zms zm32) = true := z_seg (a := 400) (k := 40) zq32_10 zq32_e11
theorem zq32_e9 : ((z_cd zm32).drop 360).all (z_okE ztb znw zcls zms zm32) = true := z_seg (a := 360) (k := 40) zq32_9 zq32_e10
theorem zq32_e8 : ((z_cd zm32).drop 320).all (z_okE ztb znw zcls zms zm32) = true := z_seg (a := 320) (k := 40) zq32_8 zq32_e9
theorem zq32_e7 : ((z_cd zm32).drop 280).all (z_okE ztb znw zcls zms zm32) = true := z_seg (a := 280) (k := 40) zq32_7 zq32_e8
theorem zq32_e6 : ((z_cd zm32).drop 240).all (z_okE ztb znw zcls zms zm32) = true := z_seg (a := 240) (k := 40) zq32_6 zq32_e7
theorem zq32_e5 : ((z_cd zm32).drop 200).all (z_okE ztb znw zcls zms zm32) = true := z_seg (a := 200) (k := 40) zq32_5 zq32_e6
theorem zq32_e4 : ((z_cd zm32).drop 160).all (z_okE ztb znw zcls zms zm32) = true := z_seg (a := 160) (k := 40) zq32_4 zq32_e5
theorem zq32_e3 : ((z_cd zm32).drop 120).all (z_okE ztb znw zcls zms zm32) = true := z_seg (a := 120) (k := 40) zq32_3 zq32_e4
theorem zq32_e2 : ((z_cd zm32).drop 80).all (z_okE ztb znw zcls zms zm32) = true := z_seg (a := 80) (k := 40) zq32_2 zq32_e3
theorem zq32_e1 : ((z_cd zm32).drop 40).all (z_okE ztb znw zcls zms zm32) = true := z_seg (a := 40) (k := 40) zq32_1 zq32_e2
theorem zq32_e0 : ((z_cd zm32).drop 0).all (z_okE ztb znw zcls zms zm32) = true := z_seg (a := 0) (k := 40) zq32_0 zq32_e1
theorem zq32 : (z_cd zm32).all (z_okE ztb znw zcls zms zm32) = true := z_seg0 zq32_e0
theorem zp32 : z_okP ztb znw zcls zms zm32 := z_okP_of 8073 8072 0 1012 (z_codeIn (ch := 8) (i := 73) (l := tables_1_8) rfl rfl) (by decide +kernel) zq32
theorem zpa_0 : ∀ cm ∈ [zm0, zm1, zm2, zm3, zm4, zm5, zm6, zm7, zm8, zm9, zm10, zm11, zm12, zm13, zm14, zm15], z_okP ztb znw zcls zms cm := y_forall zp0 <| y_forall zp1 <| y_forall zp2 <| y_forall zp3 <| y_forall zp4 <| y_forall zp5 <| y_forall zp6 <| y_forall zp7 <| y_forall zp8 <| y_forall zp9 <| y_forall zp10 <| y_forall zp11 <| y_forall zp12 <| y_forall zp13 <| y_forall zp14 <| y_forall zp15 <| y_fornil
theorem zpa_1 : ∀ cm ∈ [zm16, zm17, zm18, zm19, zm20, zm21, zm22, zm23, zm24, zm25, zm26, zm27, zm28, zm29, zm30, zm31], z_okP ztb znw zcls zms cm := y_forall zp16 <| y_forall zp17 <| y_forall zp18 <| y_forall zp19 <| y_forall zp20 <| y_forall zp21 <| y_forall zp22 <| y_forall zp23 <| y_forall zp24 <| y_forall zp25 <| y_forall zp26 <| y_forall zp27 <| y_forall zp28 <| y_forall zp29 <| y_forall zp30 <| y_forall zp31 <| y_fornil
theorem zpa_2 : ∀ cm ∈ [zm32], z_okP ztb znw zcls zms cm := y_forall zp32 <| y_fornil
theorem zms_split : zms = [zm0, zm1, zm2, zm3, zm4, zm5, zm6, zm7, zm8, zm9, zm10, zm11, zm12, zm13, zm14, zm15] ++ ([zm16, zm17, zm18, zm19, zm20, zm21, zm22, zm23, zm24, zm25, zm26, zm27, zm28, zm29, zm30, zm31] ++ ([zm32])) := by
  simp only [zms, List.cons_append, List.nil_append]
theorem zp_all : ∀ cm ∈ zms, z_okP ztb znw zcls zms cm := by
  rw [zms_split]
  exact List.forall_mem_append.mpr ⟨zpa_0, List.forall_mem_append.mpr ⟨zpa_1, zpa_2⟩⟩
theorem zAll : z_All ztb znw zcls zzty zzdv zms := ⟨zCF, ⟨zA_int, zA_byte, zA_boolean, zA_long⟩, ⟨zO_1, zO_2⟩, fun n cm h => zp_all cm (List.mem_of_getElem? h)⟩
theorem zlaw_all : (z_cd zmL).all (z_okE ztb znw zcls zms zmL) = true := by decide +kernel
