theorem zq77_0 : (((z_cd zm77).drop 0).take 40).all (z_okE ztb znw zcls zms zm77) = true := by decide +kernel
theorem zq77_1 : (((z_cd zm77).drop 40).take 40).all (z_okE ztb znw zcls zms zm77) = true := by decide +kernel
theorem zq77_e2 : ((z_cd zm77).drop 80).all (z_okE ztb znw zcls zms zm77) = true := z_seg_end (by decide +kernel)
theorem zq77_e1 : ((z_cd zm77).drop 40).all (z_okE ztb znw zcls zms zm77) = true := z_seg (a := 40) (k := 40) zq77_1 zq77_e2
theorem zq77_e0 : ((z_cd zm77).drop 0).all (z_okE ztb znw zcls zms zm77) = true := z_seg (a := 0) (k := 40) zq77_0 zq77_e1
theorem zq77 : (z_cd zm77).all (z_okE ztb znw zcls zms zm77) = true := z_seg0 zq77_e0
theorem zp77 : z_okP ztb znw zcls zms zm77 := z_okP_of 8015 8013 8014 1001 (z_codeIn (ch := 8) (i := 15) (l := tables_1_8) rfl rfl) (by decide +kernel) zq77
theorem zq78 : (z_cd zm78).all (z_okE ztb znw zcls zms zm78) = true := by decide +kernel
theorem zp78 : z_okP ztb znw zcls zms zm78 := z_okP_of 3212 3211 6 1002 (z_codeIn (ch := 3) (i := 212) (l := tables_1_3) rfl rfl) (by decide +kernel) zq78
theorem zq79 : (z_cd zm79).all (z_okE ztb znw zcls zms zm79) = true := by decide +kernel
theorem zp79 : z_okP ztb znw zcls zms zm79 := z_okP_of 3223 3222 8 1002 (z_codeIn (ch := 3) (i := 223) (l := tables_1_3) rfl rfl) (by decide +kernel) zq79
theorem zq80 : (z_cd zm80).all (z_okE ztb znw zcls zms zm80) = true := by decide +kernel
theorem zp80 : z_okP ztb znw zcls zms zm80 := z_okP_of 3201 3200 4 1002 (z_codeIn (ch := 3) (i := 201) (l := tables_1_3) rfl rfl) (by decide +kernel) zq80
theorem zq81 : (z_cd zm81).all (z_okE ztb znw zcls zms zm81) = true := by decide +kernel
theorem zp81 : z_okP ztb znw zcls zms zm81 := z_okP_of 3193 3191 3192 1002 (z_codeIn (ch := 3) (i := 193) (l := tables_1_3) rfl rfl) (by decide +kernel) zq81
theorem zq82 : (z_cd zm82).all (z_okE ztb znw zcls zms zm82) = true := by decide +kernel
theorem zp82 : z_okP ztb znw zcls zms zm82 := z_okP_of 3189 3187 3188 1001 (z_codeIn (ch := 3) (i := 189) (l := tables_1_3) rfl rfl) (by decide +kernel) zq82
theorem zq83 : (z_cd zm83).all (z_okE ztb znw zcls zms zm83) = true := by decide +kernel
theorem zp83 : z_okP ztb znw zcls zms zm83 := z_okP_of 5128 5126 5127 1001 (z_codeIn (ch := 5) (i := 128) (l := tables_1_5) rfl rfl) (by decide +kernel) zq83
theorem zq84 : (z_cd zm84).all (z_okE ztb znw zcls zms zm84) = true := by decide +kernel
theorem zp84 : z_okP ztb znw zcls zms zm84 := z_okP_of 7203 7201 7202 1001 (z_codeIn (ch := 7) (i := 203) (l := tables_1_7) rfl rfl) (by decide +kernel) zq84
theorem zq85 : (z_cd zm85).all (z_okE ztb znw zcls zms zm85) = true := by decide +kernel
theorem zp85 : z_okP ztb znw zcls zms zm85 := z_okP_of 7238 7236 7237 1001 (z_codeIn (ch := 7) (i := 238) (l := tables_1_7) rfl rfl) (by decide +kernel) zq85
theorem zq86 : (z_cd zm86).all (z_okE ztb znw zcls zms zm86) = true := by decide +kernel
theorem zp86 : z_okP ztb znw zcls zms zm86 := z_okP_of 4218 4216 4217 1001 (z_codeIn (ch := 4) (i := 218) (l := tables_1_4) rfl rfl) (by decide +kernel) zq86
theorem zq87 : (z_cd zm87).all (z_okE ztb znw zcls zms zm87) = true := by decide +kernel
theorem zp87 : z_okP ztb znw zcls zms zm87 := z_okP_of 5124 5122 5123 1001 (z_codeIn (ch := 5) (i := 124) (l := tables_1_5) rfl rfl) (by decide +kernel) zq87
theorem zq88 : (z_cd zm88).all (z_okE ztb znw zcls zms zm88) = true := by decide +kernel
theorem zp88 : z_okP ztb znw zcls zms zm88 := z_okP_of 5111 5110 38 1006 (z_codeIn (ch := 5) (i := 111) (l := tables_1_5) rfl rfl) (by decide +kernel) zq88
theorem zq89 : (z_cd zm89).all (z_okE ztb znw zcls zms zm89) = true := by decide +kernel
theorem zp89 : z_okP ztb znw zcls zms zm89 := z_okP_of 5189 5187 5188 1006 (z_codeIn (ch := 5) (i := 189) (l := tables_1_5) rfl rfl) (by decide +kernel) zq89
theorem zq90 : (z_cd zm90).all (z_okE ztb znw zcls zms zm90) = true := by decide +kernel
theorem zp90 : z_okP ztb znw zcls zms zm90 := z_okP_of 5185 5183 5184 1001 (z_codeIn (ch := 5) (i := 185) (l := tables_1_5) rfl rfl) (by decide +kernel) zq90
theorem zq91 : (z_cd zm91).all (z_okE ztb znw zcls zms zm91) = true := by decide +kernel
theorem zp91 : z_okP ztb znw zcls zms zm91 := z_okP_of 5005 5003 5004 1001 (z_codeIn (ch := 5) (i := 5) (l := tables_1_5) rfl rfl) (by decide +kernel) zq91
theorem zq92 : (z_cd zm92).all (z_okE ztb znw zcls zms zm92) = true := by decide +kernel
theorem zp92 : z_okP ztb znw zcls zms zm92 := z_okP_of 5133 5131 5132 1001 (z_codeIn (ch := 5) (i := 133) (l := tables_1_5) rfl rfl) (by decide +kernel) zq92
theorem zq93 : (z_cd zm93).all (z_okE ztb znw zcls zms zm93) = true := by decide +kernel
theorem zp93 : z_okP ztb znw zcls zms zm93 := z_okP_of 5017 5015 5016 1001 (z_codeIn (ch := 5) (i := 17) (l := tables_1_5) rfl rfl) (by decide +kernel) zq93
theorem zq94 : (z_cd zm94).all (z_okE ztb znw zcls zms zm94) = true := by decide +kernel
theorem zp94 : z_okP ztb znw zcls zms zm94 := z_okP_of 5013 5011 5012 1001 (z_codeIn (ch := 5) (i := 13) (l := tables_1_5) rfl rfl) (by decide +kernel) zq94
theorem zq95 : (z_cd zm95).all (z_okE ztb znw zcls zms zm95) = true := by decide +kernel
theorem zp95 : z_okP ztb znw zcls zms zm95 := z_okP_of 7133 7131 7132 1009 (z_codeIn (ch := 7) (i := 133) (l := tables_1_7) rfl rfl) (by decide +kernel) zq95
theorem zq96 : (z_cd zm96).all (z_okE ztb znw zcls zms zm96) = true := by decide +kernel
theorem zp96 : z_okP ztb znw zcls zms zm96 := z_okP_of 7129 7127 7128 1001 (z_codeIn (ch := 7) (i := 129) (l := tables_1_7) rfl rfl) (by decide +kernel) zq96
theorem zq97 : (z_cd zm97).all (z_okE ztb znw zcls zms zm97) = true := by decide +kernel
theorem zp97 : z_okP ztb znw zcls zms zm97 := z_okP_of 4222 4220 4221 1001 (z_codeIn (ch := 4) (i := 222) (l := tables_1_4) rfl rfl) (by decide +kernel) zq97
theorem zq98 : (z_cd zm98).all (z_okE ztb znw zcls zms zm98) = true := by decide +kernel
theorem zp98 : z_okP ztb znw zcls zms zm98 := z_okP_of 5037 5035 5036 1001 (z_codeIn (ch := 5) (i := 37) (l := tables_1_5) rfl rfl) (by decide +kernel) zq98
theorem zq99 : (z_cd zm99).all (z_okE ztb znw zcls zms zm99) = true := by decide +kernel
theorem zp99 : z_okP ztb znw zcls zms zm99 := z_okP_of 4234 4232 4233 1001 (z_codeIn (ch := 4) (i := 234) (l := tables_1_4) rfl rfl) (by decide +kernel) zq99
theorem zq100 : (z_cd zm100).all (z_okE ztb znw zcls zms zm100) = true := by decide +kernel
theorem zp100 : z_okP ztb znw zcls zms zm100 := z_okP_of 6098 6096 6097 1001 (z_codeIn (ch := 6) (i := 98) (l := tables_1_6) rfl rfl) (by decide +kernel) zq100
theorem zq101 : (z_cd zm101).all (z_okE ztb znw zcls zms zm101) = true := by decide +kernel
theorem zp101 : z_okP ztb znw zcls zms zm101 := z_okP_of 7108 7106 7107 1001 (z_codeIn (ch := 7) (i := 108) (l := tables_1_7) rfl rfl) (by decide +kernel) zq101
theorem zq102 : (z_cd zm102).all (z_okE ztb znw zcls zms zm102) = true := by decide +kernel
theorem zp102 : z_okP ztb znw zcls zms zm102 := z_okP_of 7122 7120 7121 1001 (z_codeIn (ch := 7) (i := 122) (l := tables_1_7) rfl rfl) (by decide +kernel) zq102
theorem zq103 : (z_cd zm103).all (z_okE ztb znw zcls zms zm103) = true := by decide +kernel
theorem zp103 : z_okP ztb znw zcls zms zm103 := z_okP_of 7137 7135 7136 1001 (z_codeIn (ch := 7) (i := 137) (l := tables_1_7) rfl rfl) (by decide +kernel) zq103
theorem zq104 : (z_cd zm104).all (z_okE ztb znw zcls zms zm104) = true := by decide +kernel
theorem zp104 : z_okP ztb znw zcls zms zm104 := z_okP_of 7095 7093 7094 1006 (z_codeIn (ch := 7) (i := 95) (l := tables_1_7) rfl rfl) (by decide +kernel) zq104
theorem zq105 : (z_cd zm105).all (z_okE ztb znw zcls zms zm105) = true := by decide +kernel
theorem zp105 : z_okP ztb znw zcls zms zm105 := z_okP_of 7091 7089 7090 1001 (z_codeIn (ch := 7) (i := 91) (l := tables_1_7) rfl rfl) (by decide +kernel) zq105
theorem zq106 : (z_cd zm106).all (z_okE ztb znw zcls zms zm106) = true := by decide +kernel
theorem zp106 : z_okP ztb znw zcls zms zm106 := z_okP_of 6146 6144 6145 1001 (z_codeIn (ch := 6) (i := 146) (l := tables_1_6) rfl rfl) (by decide +kernel) zq106
theorem zq107 : (z_cd zm107).all (z_okE ztb znw zcls zms zm107) = true := by decide +kernel
theorem zp107 : z_okP ztb znw zcls zms zm107 := z_okP_of 6103 6101 6102 1001 (z_codeIn (ch := 6) (i := 103) (l := tables_1_6) rfl rfl) (by decide +kernel) zq107
theorem zq108 : (z_cd zm108).all (z_okE ztb znw zcls zms zm108) = true := by decide +kernel
theorem zp108 : z_okP ztb znw zcls zms zm108 := z_okP_of 6142 6140 6141 1001 (z_codeIn (ch := 6) (i := 142) (l := tables_1_6) rfl rfl) (by decide +kernel) zq108
theorem zq109 : (z_cd zm109).all (z_okE ztb znw zcls zms zm109) = true := by decide +kernel
theorem zp109 : z_okP ztb znw zcls zms zm109 := z_okP_of 8050 8048 8049 1001 (z_codeIn (ch := 8) (i := 50) (l := tables_1_8) rfl rfl) (by decide +kernel) zq109
theorem zq110 : (z_cd zm110).all (z_okE ztb znw zcls zms zm110) = true := by decide +kernel
theorem zp110 : z_okP ztb znw zcls zms zm110 := z_okP_of 5168 5166 5167 1001 (z_codeIn (ch := 5) (i := 168) (l := tables_1_5) rfl rfl) (by decide +kernel) zq110
theorem zq111_0 : (((z_cd zm111).drop 0).take 40).all (z_okE ztb znw zcls zms zm111) = true := by decide +kernel
theorem zq111_1 : (((z_cd zm111).drop 40).take 40).all (z_okE ztb znw zcls zms zm111) = true := by decide +kernel
theorem zq111_e2 : ((z_cd zm111).drop 80).all (z_okE ztb znw zcls zms zm111) = true := z_seg_end (by decide +kernel)
theorem zq111_e1 : ((z_cd zm111).drop 40).all (z_okE ztb znw zcls zms zm111) = true := z_seg (a := 40) (k := 40) zq111_1 zq111_e2
theorem zq111_e0 : ((z_cd zm111).drop 0).all (z_okE ztb znw zcls zms zm111) = true := z_seg (a := 0) (k := 40) zq111_0 zq111_e1
theorem zq111 : (z_cd zm111).all (z_okE ztb znw zcls zms zm111) = true := z_seg0 zq111_e0
theorem zp111 : z_okP ztb znw zcls zms zm111 := z_okP_of 8105 8104 86 1012 (z_codeIn (ch := 8) (i := 105) (l := tables_1_8) rfl rfl) (by decide +kernel) zq111
theorem zq112 : (z_cd zm112).all (z_okE ztb znw zcls zms zm112) = true := by decide +kernel
theorem zp112 : z_okP ztb znw zcls zms zm112 := z_okP_of 8101 8100 85 1012 (z_codeIn (ch := 8) (i := 101) (l := tables_1_8) rfl rfl) (by decide +kernel) zq112
