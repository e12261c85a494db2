theorem zq38 : (z_cd zm38).all (z_okE ztb znw zcls zms zm38) = true := by decide +kernel
theorem zp38 : z_okP ztb znw zcls zms zm38 := z_okP_of 8023 8021 8022 1001 (z_codeIn (ch := 8) (i := 23) (l := tables_1_8) rfl rfl) (by decide +kernel) zq38
theorem zq39 : (z_cd zm39).all (z_okE ztb znw zcls zms zm39) = true := by decide +kernel
theorem zp39 : z_okP ztb znw zcls zms zm39 := z_okP_of 5021 5019 5020 1001 (z_codeIn (ch := 5) (i := 21) (l := tables_1_5) rfl rfl) (by decide +kernel) zq39
theorem zq40_0 : (((z_cd zm40).drop 0).take 40).all (z_okE ztb znw zcls zms zm40) = true := by decide +kernel
theorem zq40_1 : (((z_cd zm40).drop 40).take 40).all (z_okE ztb znw zcls zms zm40) = true := by decide +kernel
theorem zq40_e2 : ((z_cd zm40).drop 80).all (z_okE ztb znw zcls zms zm40) = true := z_seg_end (by decide +kernel)
theorem zq40_e1 : ((z_cd zm40).drop 40).all (z_okE ztb znw zcls zms zm40) = true := z_seg (a := 40) (k := 40) zq40_1 zq40_e2
theorem zq40_e0 : ((z_cd zm40).drop 0).all (z_okE ztb znw zcls zms zm40) = true := z_seg (a := 0) (k := 40) zq40_0 zq40_e1
theorem zq40 : (z_cd zm40).all (z_okE ztb znw zcls zms zm40) = true := z_seg0 zq40_e0
theorem zp40 : z_okP ztb znw zcls zms zm40 := z_okP_of 8058 8056 8057 1001 (z_codeIn (ch := 8) (i := 58) (l := tables_1_8) rfl rfl) (by decide +kernel) zq40
theorem zq41 : (z_cd zm41).all (z_okE ztb znw zcls zms zm41) = true := by decide +kernel
theorem zp41 : z_okP ztb znw zcls zms zm41 := z_okP_of 7104 7102 7103 1006 (z_codeIn (ch := 7) (i := 104) (l := tables_1_7) rfl rfl) (by decide +kernel) zq41
theorem zq42 : (z_cd zm42).all (z_okE ztb znw zcls zms zm42) = true := by decide +kernel
theorem zp42 : z_okP ztb znw zcls zms zm42 := z_okP_of 7100 7098 7099 1001 (z_codeIn (ch := 7) (i := 100) (l := tables_1_7) rfl rfl) (by decide +kernel) zq42
theorem zq43 : (z_cd zm43).all (z_okE ztb znw zcls zms zm43) = true := by decide +kernel
theorem zp43 : z_okP ztb znw zcls zms zm43 := z_okP_of 8040 8039 78 1011 (z_codeIn (ch := 8) (i := 40) (l := tables_1_8) rfl rfl) (by decide +kernel) zq43
theorem zq44 : (z_cd zm44).all (z_okE ztb znw zcls zms zm44) = true := by decide +kernel
theorem zp44 : z_okP ztb znw zcls zms zm44 := z_okP_of 8036 8035 77 1011 (z_codeIn (ch := 8) (i := 36) (l := tables_1_8) rfl rfl) (by decide +kernel) zq44
theorem zq45 : (z_cd zm45).all (z_okE ztb znw zcls zms zm45) = true := by decide +kernel
theorem zp45 : z_okP ztb znw zcls zms zm45 := z_okP_of 8031 8029 8030 1011 (z_codeIn (ch := 8) (i := 31) (l := tables_1_8) rfl rfl) (by decide +kernel) zq45
theorem zq46 : (z_cd zm46).all (z_okE ztb znw zcls zms zm46) = true := by decide +kernel
theorem zp46 : z_okP ztb znw zcls zms zm46 := z_okP_of 8027 8025 8026 1001 (z_codeIn (ch := 8) (i := 27) (l := tables_1_8) rfl rfl) (by decide +kernel) zq46
theorem zq47 : (z_cd zm47).all (z_okE ztb znw zcls zms zm47) = true := by decide +kernel
theorem zp47 : z_okP ztb znw zcls zms zm47 := z_okP_of 3185 3183 3184 1001 (z_codeIn (ch := 3) (i := 185) (l := tables_1_3) rfl rfl) (by decide +kernel) zq47
theorem zq48 : (z_cd zm48).all (z_okE ztb znw zcls zms zm48) = true := by decide +kernel
theorem zp48 : z_okP ztb znw zcls zms zm48 := z_okP_of 4226 4224 4225 1003 (z_codeIn (ch := 4) (i := 226) (l := tables_1_4) rfl rfl) (by decide +kernel) zq48
theorem zq49 : (z_cd zm49).all (z_okE ztb znw zcls zms zm49) = true := by decide +kernel
theorem zp49 : z_okP ztb znw zcls zms zm49 := z_okP_of 5230 5228 5229 1001 (z_codeIn (ch := 5) (i := 230) (l := tables_1_5) rfl rfl) (by decide +kernel) zq49
theorem zq50 : (z_cd zm50).all (z_okE ztb znw zcls zms zm50) = true := by decide +kernel
theorem zp50 : z_okP ztb znw zcls zms zm50 := z_okP_of 5177 5175 5176 1001 (z_codeIn (ch := 5) (i := 177) (l := tables_1_5) rfl rfl) (by decide +kernel) zq50
theorem zq51 : (z_cd zm51).all (z_okE ztb znw zcls zms zm51) = true := by decide +kernel
theorem zp51 : z_okP ztb znw zcls zms zm51 := z_okP_of 3176 3174 3175 1002 (z_codeIn (ch := 3) (i := 176) (l := tables_1_3) rfl rfl) (by decide +kernel) zq51
theorem zq52 : (z_cd zm52).all (z_okE ztb znw zcls zms zm52) = true := by decide +kernel
theorem zp52 : z_okP ztb znw zcls zms zm52 := z_okP_of 3180 3178 3179 1002 (z_codeIn (ch := 3) (i := 180) (l := tables_1_3) rfl rfl) (by decide +kernel) zq52
theorem zq53 : (z_cd zm53).all (z_okE ztb znw zcls zms zm53) = true := by decide +kernel
theorem zp53 : z_okP ztb znw zcls zms zm53 := z_okP_of 3172 3170 3171 1001 (z_codeIn (ch := 3) (i := 172) (l := tables_1_3) rfl rfl) (by decide +kernel) zq53
theorem zq54 : (z_cd zm54).all (z_okE ztb znw zcls zms zm54) = true := by decide +kernel
theorem zp54 : z_okP ztb znw zcls zms zm54 := z_okP_of 5160 5159 40 1001 (z_codeIn (ch := 5) (i := 160) (l := tables_1_5) rfl rfl) (by decide +kernel) zq54
theorem zq55 : (z_cd zm55).all (z_okE ztb znw zcls zms zm55) = true := by decide +kernel
theorem zp55 : z_okP ztb znw zcls zms zm55 := z_okP_of 5156 5154 5155 1001 (z_codeIn (ch := 5) (i := 156) (l := tables_1_5) rfl rfl) (by decide +kernel) zq55
theorem zq56 : (z_cd zm56).all (z_okE ztb znw zcls zms zm56) = true := by decide +kernel
theorem zp56 : z_okP ztb znw zcls zms zm56 := z_okP_of 8002 8000 8001 1009 (z_codeIn (ch := 8) (i := 2) (l := tables_1_8) rfl rfl) (by decide +kernel) zq56
theorem zq57 : (z_cd zm57).all (z_okE ztb znw zcls zms zm57) = true := by decide +kernel
theorem zp57 : z_okP ztb znw zcls zms zm57 := z_okP_of 8006 8004 8005 1001 (z_codeIn (ch := 8) (i := 6) (l := tables_1_8) rfl rfl) (by decide +kernel) zq57
theorem zq58 : (z_cd zm58).all (z_okE ztb znw zcls zms zm58) = true := by decide +kernel
theorem zp58 : z_okP ztb znw zcls zms zm58 := z_okP_of 7141 7139 7140 1009 (z_codeIn (ch := 7) (i := 141) (l := tables_1_7) rfl rfl) (by decide +kernel) zq58
theorem zq59 : (z_cd zm59).all (z_okE ztb znw zcls zms zm59) = true := by decide +kernel
theorem zp59 : z_okP ztb znw zcls zms zm59 := z_okP_of 7223 7221 7222 1009 (z_codeIn (ch := 7) (i := 223) (l := tables_1_7) rfl rfl) (by decide +kernel) zq59
theorem zq60 : (z_cd zm60).all (z_okE ztb znw zcls zms zm60) = true := by decide +kernel
theorem zp60 : z_okP ztb znw zcls zms zm60 := z_okP_of 7219 7217 7218 1001 (z_codeIn (ch := 7) (i := 219) (l := tables_1_7) rfl rfl) (by decide +kernel) zq60
theorem zq61 : (z_cd zm61).all (z_okE ztb znw zcls zms zm61) = true := by decide +kernel
theorem zp61 : z_okP ztb znw zcls zms zm61 := z_okP_of 8011 8009 8010 1001 (z_codeIn (ch := 8) (i := 11) (l := tables_1_8) rfl rfl) (by decide +kernel) zq61
theorem zq62 : (z_cd zm62).all (z_okE ztb znw zcls zms zm62) = true := by decide +kernel
theorem zp62 : z_okP ztb znw zcls zms zm62 := z_okP_of 5144 5142 5143 1001 (z_codeIn (ch := 5) (i := 144) (l := tables_1_5) rfl rfl) (by decide +kernel) zq62
theorem zq63 : (z_cd zm63).all (z_okE ztb znw zcls zms zm63) = true := by decide +kernel
theorem zp63 : z_okP ztb znw zcls zms zm63 := z_okP_of 4238 4236 4237 1003 (z_codeIn (ch := 4) (i := 238) (l := tables_1_4) rfl rfl) (by decide +kernel) zq63
theorem zq64 : (z_cd zm64).all (z_okE ztb znw zcls zms zm64) = true := by decide +kernel
theorem zp64 : z_okP ztb znw zcls zms zm64 := z_okP_of 7058 7056 7057 1001 (z_codeIn (ch := 7) (i := 58) (l := tables_1_7) rfl rfl) (by decide +kernel) zq64
theorem zq65 : (z_cd zm65).all (z_okE ztb znw zcls zms zm65) = true := by decide +kernel
theorem zp65 : z_okP ztb znw zcls zms zm65 := z_okP_of 7125 7124 0 1001 (z_codeIn (ch := 7) (i := 125) (l := tables_1_7) rfl rfl) (by decide +kernel) zq65
theorem zq66 : (z_cd zm66).all (z_okE ztb znw zcls zms zm66) = true := by decide +kernel
theorem zp66 : z_okP ztb znw zcls zms zm66 := z_okP_of 5239 5238 0 1001 (z_codeIn (ch := 5) (i := 239) (l := tables_1_5) rfl rfl) (by decide +kernel) zq66
theorem zq67 : (z_cd zm67).all (z_okE ztb znw zcls zms zm67) = true := by decide +kernel
theorem zp67 : z_okP ztb znw zcls zms zm67 := z_okP_of 7161 7160 69 1010 (z_codeIn (ch := 7) (i := 161) (l := tables_1_7) rfl rfl) (by decide +kernel) zq67
theorem zq68 : (z_cd zm68).all (z_okE ztb znw zcls zms zm68) = true := by decide +kernel
theorem zp68 : z_okP ztb znw zcls zms zm68 := z_okP_of 7187 7186 73 1010 (z_codeIn (ch := 7) (i := 187) (l := tables_1_7) rfl rfl) (by decide +kernel) zq68
theorem zq69 : (z_cd zm69).all (z_okE ztb znw zcls zms zm69) = true := by decide +kernel
theorem zp69 : z_okP ztb znw zcls zms zm69 := z_okP_of 7157 7155 7156 1010 (z_codeIn (ch := 7) (i := 157) (l := tables_1_7) rfl rfl) (by decide +kernel) zq69
theorem zq70 : (z_cd zm70).all (z_okE ztb znw zcls zms zm70) = true := by decide +kernel
theorem zp70 : z_okP ztb znw zcls zms zm70 := z_okP_of 7153 7151 7152 1001 (z_codeIn (ch := 7) (i := 153) (l := tables_1_7) rfl rfl) (by decide +kernel) zq70
theorem zq71 : (z_cd zm71).all (z_okE ztb znw zcls zms zm71) = true := by decide +kernel
theorem zp71 : z_okP ztb znw zcls zms zm71 := z_okP_of 5201 5199 5200 1008 (z_codeIn (ch := 5) (i := 201) (l := tables_1_5) rfl rfl) (by decide +kernel) zq71
theorem zq72 : (z_cd zm72).all (z_okE ztb znw zcls zms zm72) = true := by decide +kernel
theorem zp72 : z_okP ztb znw zcls zms zm72 := z_okP_of 6118 6116 6117 1001 (z_codeIn (ch := 6) (i := 118) (l := tables_1_6) rfl rfl) (by decide +kernel) zq72
theorem zq73 : (z_cd zm73).all (z_okE ztb znw zcls zms zm73) = true := by decide +kernel
theorem zp73 : z_okP ztb znw zcls zms zm73 := z_okP_of 7207 7205 7206 1010 (z_codeIn (ch := 7) (i := 207) (l := tables_1_7) rfl rfl) (by decide +kernel) zq73
theorem zq74 : (z_cd zm74).all (z_okE ztb znw zcls zms zm74) = true := by decide +kernel
theorem zp74 : z_okP ztb znw zcls zms zm74 := z_okP_of 7211 7209 7210 1001 (z_codeIn (ch := 7) (i := 211) (l := tables_1_7) rfl rfl) (by decide +kernel) zq74
theorem zq75 : (z_cd zm75).all (z_okE ztb znw zcls zms zm75) = true := by decide +kernel
theorem zp75 : z_okP ztb znw zcls zms zm75 := z_okP_of 5221 5219 5220 1001 (z_codeIn (ch := 5) (i := 221) (l := tables_1_5) rfl rfl) (by decide +kernel) zq75
theorem zq76_0 : (((z_cd zm76).drop 0).take 40).all (z_okE ztb znw zcls zms zm76) = true := by decide +kernel
theorem zq76_1 : (((z_cd zm76).drop 40).take 40).all (z_okE ztb znw zcls zms zm76) = true := by decide +kernel
theorem zq76_e2 : ((z_cd zm76).drop 80).all (z_okE ztb znw zcls zms zm76) = true := z_seg_end (by decide +kernel)
theorem zq76_e1 : ((z_cd zm76).drop 40).all (z_okE ztb znw zcls zms zm76) = true := z_seg (a := 40) (k := 40) zq76_1 zq76_e2
theorem zq76_e0 : ((z_cd zm76).drop 0).all (z_okE ztb znw zcls zms zm76) = true := z_seg (a := 0) (k := 40) zq76_0 zq76_e1
theorem zq76 : (z_cd zm76).all (z_okE ztb znw zcls zms zm76) = true := z_seg0 zq76_e0
theorem zp76 : z_okP ztb znw zcls zms zm76 := z_okP_of 8019 8017 8018 1011 (z_codeIn (ch := 8) (i := 19) (l := tables_1_8) rfl rfl) (by decide +kernel) zq76
