theorem zq17_0 : (((z_cd zm17).drop 0).take 40).all (z_okE ztb znw zcls zms zm17) = true := by decide +kernel
theorem zq17_1 : (((z_cd zm17).drop 40).take 40).all (z_okE ztb znw zcls zms zm17) = true := by decide +kernel
theorem zq17_e2 : ((z_cd zm17).drop 80).all (z_okE ztb znw zcls zms zm17) = true := z_seg_end (by decide +kernel)
theorem zq17_e1 : ((z_cd zm17).drop 40).all (z_okE ztb znw zcls zms zm17) = true := z_seg (a := 40) (k := 40) zq17_1 zq17_e2
theorem zq17_e0 : ((z_cd zm17).drop 0).all (z_okE ztb znw zcls zms zm17) = true := z_seg (a := 0) (k := 40) zq17_0 zq17_e1
theorem zq17 : (z_cd zm17).all (z_okE ztb znw zcls zms zm17) = true := z_seg0 zq17_e0
theorem zp17 : z_okP ztb znw zcls zms zm17 := z_okP_of 2024 2023 0 1007 (z_codeIn (ch := 2) (i := 24) (l := tables_1_2) rfl rfl) (by decide +kernel) zq17
theorem zq18_0 : (((z_cd zm18).drop 0).take 40).all (z_okE ztb znw zcls zms zm18) = true := by decide +kernel
theorem zq18_1 : (((z_cd zm18).drop 40).take 40).all (z_okE ztb znw zcls zms zm18) = true := by decide +kernel
theorem zq18_e2 : ((z_cd zm18).drop 80).all (z_okE ztb znw zcls zms zm18) = true := z_seg_end (by decide +kernel)
theorem zq18_e1 : ((z_cd zm18).drop 40).all (z_okE ztb znw zcls zms zm18) = true := z_seg (a := 40) (k := 40) zq18_1 zq18_e2
theorem zq18_e0 : ((z_cd zm18).drop 0).all (z_okE ztb znw zcls zms zm18) = true := z_seg (a := 0) (k := 40) zq18_0 zq18_e1
theorem zq18 : (z_cd zm18).all (z_okE ztb znw zcls zms zm18) = true := z_seg0 zq18_e0
theorem zp18 : z_okP ztb znw zcls zms zm18 := z_okP_of 2017 2016 0 1006 (z_codeIn (ch := 2) (i := 17) (l := tables_1_2) rfl rfl) (by decide +kernel) zq18
theorem zq19_0 : (((z_cd zm19).drop 0).take 40).all (z_okE ztb znw zcls zms zm19) = true := by decide +kernel
theorem zq19_1 : (((z_cd zm19).drop 40).take 40).all (z_okE ztb znw zcls zms zm19) = true := by decide +kernel
theorem zq19_e2 : ((z_cd zm19).drop 80).all (z_okE ztb znw zcls zms zm19) = true := z_seg_end (by decide +kernel)
theorem zq19_e1 : ((z_cd zm19).drop 40).all (z_okE ztb znw zcls zms zm19) = true := z_seg (a := 40) (k := 40) zq19_1 zq19_e2
theorem zq19_e0 : ((z_cd zm19).drop 0).all (z_okE ztb znw zcls zms zm19) = true := z_seg (a := 0) (k := 40) zq19_0 zq19_e1
theorem zq19 : (z_cd zm19).all (z_okE ztb znw zcls zms zm19) = true := z_seg0 zq19_e0
theorem zp19 : z_okP ztb znw zcls zms zm19 := z_okP_of 1131 1130 0 1004 (z_codeIn (ch := 1) (i := 131) (l := tables_1_1) rfl rfl) (by decide +kernel) zq19
theorem zq20_0 : (((z_cd zm20).drop 0).take 40).all (z_okE ztb znw zcls zms zm20) = true := by decide +kernel
theorem zq20_1 : (((z_cd zm20).drop 40).take 40).all (z_okE ztb znw zcls zms zm20) = true := by decide +kernel
theorem zq20_e2 : ((z_cd zm20).drop 80).all (z_okE ztb znw zcls zms zm20) = true := z_seg_end (by decide +kernel)
theorem zq20_e1 : ((z_cd zm20).drop 40).all (z_okE ztb znw zcls zms zm20) = true := z_seg (a := 40) (k := 40) zq20_1 zq20_e2
theorem zq20_e0 : ((z_cd zm20).drop 0).all (z_okE ztb znw zcls zms zm20) = true := z_seg (a := 0) (k := 40) zq20_0 zq20_e1
theorem zq20 : (z_cd zm20).all (z_okE ztb znw zcls zms zm20) = true := z_seg0 zq20_e0
theorem zp20 : z_okP ztb znw zcls zms zm20 := z_okP_of 2115 2114 0 1008 (z_codeIn (ch := 2) (i := 115) (l := tables_1_2) rfl rfl) (by decide +kernel) zq20
theorem zq21_0 : (((z_cd zm21).drop 0).take 40).all (z_okE ztb znw zcls zms zm21) = true := by decide +kernel
theorem zq21_1 : (((z_cd zm21).drop 40).take 40).all (z_okE ztb znw zcls zms zm21) = true := by decide +kernel
theorem zq21_e2 : ((z_cd zm21).drop 80).all (z_okE ztb znw zcls zms zm21) = true := z_seg_end (by decide +kernel)
theorem zq21_e1 : ((z_cd zm21).drop 40).all (z_okE ztb znw zcls zms zm21) = true := z_seg (a := 40) (k := 40) zq21_1 zq21_e2
theorem zq21_e0 : ((z_cd zm21).drop 0).all (z_okE ztb znw zcls zms zm21) = true := z_seg (a := 0) (k := 40) zq21_0 zq21_e1
theorem zq21 : (z_cd zm21).all (z_okE ztb znw zcls zms zm21) = true := z_seg0 zq21_e0
theorem zp21 : z_okP ztb znw zcls zms zm21 := z_okP_of 1026 1025 0 1001 (z_codeIn (ch := 1) (i := 26) (l := tables_1_1) rfl rfl) (by decide +kernel) zq21
theorem zq22 : (z_cd zm22).all (z_okE ztb znw zcls zms zm22) = true := by decide +kernel
theorem zp22 : z_okP ztb znw zcls zms zm22 := z_okP_of 5148 5146 5147 1006 (z_codeIn (ch := 5) (i := 148) (l := tables_1_5) rfl rfl) (by decide +kernel) zq22
theorem zq23 : (z_cd zm23).all (z_okE ztb znw zcls zms zm23) = true := by decide +kernel
theorem zp23 : z_okP ztb znw zcls zms zm23 := z_okP_of 7079 7078 68 1006 (z_codeIn (ch := 7) (i := 79) (l := tables_1_7) rfl rfl) (by decide +kernel) zq23
theorem zq24 : (z_cd zm24).all (z_okE ztb znw zcls zms zm24) = true := by decide +kernel
theorem zp24 : z_okP ztb znw zcls zms zm24 := z_okP_of 7070 7069 67 1006 (z_codeIn (ch := 7) (i := 70) (l := tables_1_7) rfl rfl) (by decide +kernel) zq24
theorem zq25 : (z_cd zm25).all (z_okE ztb znw zcls zms zm25) = true := by decide +kernel
theorem zp25 : z_okP ztb znw zcls zms zm25 := z_okP_of 7066 7064 7065 1006 (z_codeIn (ch := 7) (i := 66) (l := tables_1_7) rfl rfl) (by decide +kernel) zq25
theorem zq26 : (z_cd zm26).all (z_okE ztb znw zcls zms zm26) = true := by decide +kernel
theorem zp26 : z_okP ztb znw zcls zms zm26 := z_okP_of 7087 7085 7086 1008 (z_codeIn (ch := 7) (i := 87) (l := tables_1_7) rfl rfl) (by decide +kernel) zq26
theorem zq27 : (z_cd zm27).all (z_okE ztb znw zcls zms zm27) = true := by decide +kernel
theorem zp27 : z_okP ztb znw zcls zms zm27 := z_okP_of 7062 7060 7061 1001 (z_codeIn (ch := 7) (i := 62) (l := tables_1_7) rfl rfl) (by decide +kernel) zq27
theorem zq28 : (z_cd zm28).all (z_okE ztb znw zcls zms zm28) = true := by decide +kernel
theorem zp28 : z_okP ztb znw zcls zms zm28 := z_okP_of 4070 4068 4069 1003 (z_codeIn (ch := 4) (i := 70) (l := tables_1_4) rfl rfl) (by decide +kernel) zq28
theorem zq29 : (z_cd zm29).all (z_okE ztb znw zcls zms zm29) = true := by decide +kernel
theorem zp29 : z_okP ztb znw zcls zms zm29 := z_okP_of 5225 5223 5224 1001 (z_codeIn (ch := 5) (i := 225) (l := tables_1_5) rfl rfl) (by decide +kernel) zq29
theorem zq30 : (z_cd zm30).all (z_okE ztb znw zcls zms zm30) = true := by decide +kernel
theorem zp30 : z_okP ztb znw zcls zms zm30 := z_okP_of 5009 5007 5008 1004 (z_codeIn (ch := 5) (i := 9) (l := tables_1_5) rfl rfl) (by decide +kernel) zq30
theorem zq31 : (z_cd zm31).all (z_okE ztb znw zcls zms zm31) = true := by decide +kernel
theorem zp31 : z_okP ztb znw zcls zms zm31 := z_okP_of 5120 5118 5119 1001 (z_codeIn (ch := 5) (i := 120) (l := tables_1_5) rfl rfl) (by decide +kernel) zq31
theorem zq32 : (z_cd zm32).all (z_okE ztb znw zcls zms zm32) = true := by decide +kernel
theorem zp32 : z_okP ztb znw zcls zms zm32 := z_okP_of 5136 5135 0 1001 (z_codeIn (ch := 5) (i := 136) (l := tables_1_5) rfl rfl) (by decide +kernel) zq32
theorem zq33 : (z_cd zm33).all (z_okE ztb znw zcls zms zm33) = true := by decide +kernel
theorem zp33 : z_okP ztb znw zcls zms zm33 := z_okP_of 5181 5179 5180 1001 (z_codeIn (ch := 5) (i := 181) (l := tables_1_5) rfl rfl) (by decide +kernel) zq33
theorem zq34 : (z_cd zm34).all (z_okE ztb znw zcls zms zm34) = true := by decide +kernel
theorem zp34 : z_okP ztb znw zcls zms zm34 := z_okP_of 3197 3195 3196 1003 (z_codeIn (ch := 3) (i := 197) (l := tables_1_3) rfl rfl) (by decide +kernel) zq34
theorem zq35 : (z_cd zm35).all (z_okE ztb znw zcls zms zm35) = true := by decide +kernel
theorem zp35 : z_okP ztb znw zcls zms zm35 := z_okP_of 8066 8064 8065 1002 (z_codeIn (ch := 8) (i := 66) (l := tables_1_8) rfl rfl) (by decide +kernel) zq35
theorem zq36 : (z_cd zm36).all (z_okE ztb znw zcls zms zm36) = true := by decide +kernel
theorem zp36 : z_okP ztb znw zcls zms zm36 := z_okP_of 4160 4158 4159 1004 (z_codeIn (ch := 4) (i := 160) (l := tables_1_4) rfl rfl) (by decide +kernel) zq36
theorem zq37 : (z_cd zm37).all (z_okE ztb znw zcls zms zm37) = true := by decide +kernel
theorem zp37 : z_okP ztb znw zcls zms zm37 := z_okP_of 8062 8060 8061 1001 (z_codeIn (ch := 8) (i := 62) (l := tables_1_8) rfl rfl) (by decide +kernel) zq37
