theorem zq121 : (z_cd zm121).all (z_okE ztb znw zcls zms zm121) = true := by decide +kernel
theorem zp121 : z_okP ztb znw zcls zms zm121 := z_okP_of 12133 12132 184 1012 (z_codeIn (ch := 12) (i := 133) (l := tables_1_12) rfl rfl) (by decide +kernel) zq121
theorem zq122 : (z_cd zm122).all (z_okE ztb znw zcls zms zm122) = true := by decide +kernel
theorem zp122 : z_okP ztb znw zcls zms zm122 := z_okP_of 12129 12128 183 1012 (z_codeIn (ch := 12) (i := 129) (l := tables_1_12) rfl rfl) (by decide +kernel) zq122
theorem zq123 : (z_cd zm123).all (z_okE ztb znw zcls zms zm123) = true := by decide +kernel
theorem zp123 : z_okP ztb znw zcls zms zm123 := z_okP_of 12137 12136 185 1012 (z_codeIn (ch := 12) (i := 137) (l := tables_1_12) rfl rfl) (by decide +kernel) zq123
theorem zq124 : (z_cd zm124).all (z_okE ztb znw zcls zms zm124) = true := by decide +kernel
theorem zp124 : z_okP ztb znw zcls zms zm124 := z_okP_of 12117 12115 12116 1012 (z_codeIn (ch := 12) (i := 117) (l := tables_1_12) rfl rfl) (by decide +kernel) zq124
theorem zq125 : (z_cd zm125).all (z_okE ztb znw zcls zms zm125) = true := by decide +kernel
theorem zp125 : z_okP ztb znw zcls zms zm125 := z_okP_of 10079 10078 0 1012 (z_codeIn (ch := 10) (i := 79) (l := tables_1_10) rfl rfl) (by decide +kernel) zq125
theorem zq126 : (z_cd zm126).all (z_okE ztb znw zcls zms zm126) = true := by decide +kernel
theorem zp126 : z_okP ztb znw zcls zms zm126 := z_okP_of 10199 10198 110 1012 (z_codeIn (ch := 10) (i := 199) (l := tables_1_10) rfl rfl) (by decide +kernel) zq126
theorem zq127 : (z_cd zm127).all (z_okE ztb znw zcls zms zm127) = true := by decide +kernel
theorem zp127 : z_okP ztb znw zcls zms zm127 := z_okP_of 11127 11126 141 1012 (z_codeIn (ch := 11) (i := 127) (l := tables_1_11) rfl rfl) (by decide +kernel) zq127
theorem zq128 : (z_cd zm128).all (z_okE ztb znw zcls zms zm128) = true := by decide +kernel
theorem zp128 : z_okP ztb znw zcls zms zm128 := z_okP_of 11155 11153 11154 1012 (z_codeIn (ch := 11) (i := 155) (l := tables_1_11) rfl rfl) (by decide +kernel) zq128
theorem zq129 : (z_cd zm129).all (z_okE ztb znw zcls zms zm129) = true := by decide +kernel
theorem zp129 : z_okP ztb znw zcls zms zm129 := z_okP_of 10095 10094 90 1012 (z_codeIn (ch := 10) (i := 95) (l := tables_1_10) rfl rfl) (by decide +kernel) zq129
theorem zq130 : (z_cd zm130).all (z_okE ztb znw zcls zms zm130) = true := by decide +kernel
theorem zp130 : z_okP ztb znw zcls zms zm130 := z_okP_of 10215 10214 112 1012 (z_codeIn (ch := 10) (i := 215) (l := tables_1_10) rfl rfl) (by decide +kernel) zq130
theorem zq131 : (z_cd zm131).all (z_okE ztb znw zcls zms zm131) = true := by decide +kernel
theorem zp131 : z_okP ztb znw zcls zms zm131 := z_okP_of 11115 11113 11114 1012 (z_codeIn (ch := 11) (i := 115) (l := tables_1_11) rfl rfl) (by decide +kernel) zq131
theorem zq132 : (z_cd zm132).all (z_okE ztb znw zcls zms zm132) = true := by decide +kernel
theorem zp132 : z_okP ztb znw zcls zms zm132 := z_okP_of 11147 11145 11146 1012 (z_codeIn (ch := 11) (i := 147) (l := tables_1_11) rfl rfl) (by decide +kernel) zq132
theorem zq133 : (z_cd zm133).all (z_okE ztb znw zcls zms zm133) = true := by decide +kernel
theorem zp133 : z_okP ztb znw zcls zms zm133 := z_okP_of 13010 13008 13009 1012 (z_codeIn (ch := 13) (i := 10) (l := tables_1_13) rfl rfl) (by decide +kernel) zq133
theorem zq134 : (z_cd zm134).all (z_okE ztb znw zcls zms zm134) = true := by decide +kernel
theorem zp134 : z_okP ztb znw zcls zms zm134 := z_okP_of 12223 12221 12222 1012 (z_codeIn (ch := 12) (i := 223) (l := tables_1_12) rfl rfl) (by decide +kernel) zq134
theorem zq135 : (z_cd zm135).all (z_okE ztb znw zcls zms zm135) = true := by decide +kernel
theorem zp135 : z_okP ztb znw zcls zms zm135 := z_okP_of 10227 10225 10226 1012 (z_codeIn (ch := 10) (i := 227) (l := tables_1_10) rfl rfl) (by decide +kernel) zq135
theorem zq136 : (z_cd zm136).all (z_okE ztb znw zcls zms zm136) = true := by decide +kernel
theorem zp136 : z_okP ztb znw zcls zms zm136 := z_okP_of 12231 12230 195 1012 (z_codeIn (ch := 12) (i := 231) (l := tables_1_12) rfl rfl) (by decide +kernel) zq136
theorem zq137 : (z_cd zm137).all (z_okE ztb znw zcls zms zm137) = true := by decide +kernel
theorem zp137 : z_okP ztb znw zcls zms zm137 := z_okP_of 12203 12202 194 1012 (z_codeIn (ch := 12) (i := 203) (l := tables_1_12) rfl rfl) (by decide +kernel) zq137
theorem zq138_0 : (((z_cd zm138).drop 0).take 40).all (z_okE ztb znw zcls zms zm138) = true := by decide +kernel
theorem zq138_1 : (((z_cd zm138).drop 40).take 40).all (z_okE ztb znw zcls zms zm138) = true := by decide +kernel
theorem zq138_e2 : ((z_cd zm138).drop 80).all (z_okE ztb znw zcls zms zm138) = true := z_seg_end (by decide +kernel)
theorem zq138_e1 : ((z_cd zm138).drop 40).all (z_okE ztb znw zcls zms zm138) = true := z_seg (a := 40) (k := 40) zq138_1 zq138_e2
theorem zq138_e0 : ((z_cd zm138).drop 0).all (z_okE ztb znw zcls zms zm138) = true := z_seg (a := 0) (k := 40) zq138_0 zq138_e1
theorem zq138 : (z_cd zm138).all (z_okE ztb znw zcls zms zm138) = true := z_seg0 zq138_e0
theorem zp138 : z_okP ztb znw zcls zms zm138 := z_okP_of 13006 13004 13005 1012 (z_codeIn (ch := 13) (i := 6) (l := tables_1_13) rfl rfl) (by decide +kernel) zq138
theorem zq139 : (z_cd zm139).all (z_okE ztb znw zcls zms zm139) = true := by decide +kernel
theorem zp139 : z_okP ztb znw zcls zms zm139 := z_okP_of 12105 12103 12104 1012 (z_codeIn (ch := 12) (i := 105) (l := tables_1_12) rfl rfl) (by decide +kernel) zq139
theorem zq140 : (z_cd zm140).all (z_okE ztb znw zcls zms zm140) = true := by decide +kernel
theorem zp140 : z_okP ztb znw zcls zms zm140 := z_okP_of 12238 12237 196 1012 (z_codeIn (ch := 12) (i := 238) (l := tables_1_12) rfl rfl) (by decide +kernel) zq140
theorem zq141 : (z_cd zm141).all (z_okE ztb znw zcls zms zm141) = true := by decide +kernel
theorem zp141 : z_okP ztb znw zcls zms zm141 := z_okP_of 12227 12225 12226 1012 (z_codeIn (ch := 12) (i := 227) (l := tables_1_12) rfl rfl) (by decide +kernel) zq141
theorem zq142 : (z_cd zm142).all (z_okE ztb znw zcls zms zm142) = true := by decide +kernel
theorem zp142 : z_okP ztb znw zcls zms zm142 := z_okP_of 10076 10074 10075 1012 (z_codeIn (ch := 10) (i := 76) (l := tables_1_10) rfl rfl) (by decide +kernel) zq142
theorem zq143 : (z_cd zm143).all (z_okE ztb znw zcls zms zm143) = true := by decide +kernel
theorem zp143 : z_okP ztb znw zcls zms zm143 := z_okP_of 11159 11157 11158 1012 (z_codeIn (ch := 11) (i := 159) (l := tables_1_11) rfl rfl) (by decide +kernel) zq143
theorem zq144 : (z_cd zm144).all (z_okE ztb znw zcls zms zm144) = true := by decide +kernel
theorem zp144 : z_okP ztb znw zcls zms zm144 := z_okP_of 11143 11141 11142 1012 (z_codeIn (ch := 11) (i := 143) (l := tables_1_11) rfl rfl) (by decide +kernel) zq144
theorem zq145_0 : (((z_cd zm145).drop 0).take 40).all (z_okE ztb znw zcls zms zm145) = true := by decide +kernel
theorem zq145_1 : (((z_cd zm145).drop 40).take 40).all (z_okE ztb znw zcls zms zm145) = true := by decide +kernel
theorem zq145_e2 : ((z_cd zm145).drop 80).all (z_okE ztb znw zcls zms zm145) = true := z_seg_end (by decide +kernel)
theorem zq145_e1 : ((z_cd zm145).drop 40).all (z_okE ztb znw zcls zms zm145) = true := z_seg (a := 40) (k := 40) zq145_1 zq145_e2
theorem zq145_e0 : ((z_cd zm145).drop 0).all (z_okE ztb znw zcls zms zm145) = true := z_seg (a := 0) (k := 40) zq145_0 zq145_e1
theorem zq145 : (z_cd zm145).all (z_okE ztb znw zcls zms zm145) = true := z_seg0 zq145_e0
theorem zp145 : z_okP ztb znw zcls zms zm145 := z_okP_of 10072 10070 10071 1012 (z_codeIn (ch := 10) (i := 72) (l := tables_1_10) rfl rfl) (by decide +kernel) zq145
theorem zq146 : (z_cd zm146).all (z_okE ztb znw zcls zms zm146) = true := by decide +kernel
theorem zp146 : z_okP ztb znw zcls zms zm146 := z_okP_of 12157 12156 186 1012 (z_codeIn (ch := 12) (i := 157) (l := tables_1_12) rfl rfl) (by decide +kernel) zq146
theorem zq147 : (z_cd zm147).all (z_okE ztb znw zcls zms zm147) = true := by decide +kernel
theorem zp147 : z_okP ztb znw zcls zms zm147 := z_okP_of 11003 11001 11002 1012 (z_codeIn (ch := 11) (i := 3) (l := tables_1_11) rfl rfl) (by decide +kernel) zq147
theorem zq148 : (z_cd zm148).all (z_okE ztb znw zcls zms zm148) = true := by decide +kernel
theorem zp148 : z_okP ztb znw zcls zms zm148 := z_okP_of 12211 12209 12210 1012 (z_codeIn (ch := 12) (i := 211) (l := tables_1_12) rfl rfl) (by decide +kernel) zq148
theorem zq149 : (z_cd zm149).all (z_okE ztb znw zcls zms zm149) = true := by decide +kernel
theorem zp149 : z_okP ztb znw zcls zms zm149 := z_okP_of 12194 12192 12193 1012 (z_codeIn (ch := 12) (i := 194) (l := tables_1_12) rfl rfl) (by decide +kernel) zq149
theorem zq150 : (z_cd zm150).all (z_okE ztb znw zcls zms zm150) = true := by decide +kernel
theorem zp150 : z_okP ztb znw zcls zms zm150 := z_okP_of 12215 12213 12214 1012 (z_codeIn (ch := 12) (i := 215) (l := tables_1_12) rfl rfl) (by decide +kernel) zq150
theorem zq151 : (z_cd zm151).all (z_okE ztb znw zcls zms zm151) = true := by decide +kernel
theorem zp151 : z_okP ztb znw zcls zms zm151 := z_okP_of 11135 11133 11134 1012 (z_codeIn (ch := 11) (i := 135) (l := tables_1_11) rfl rfl) (by decide +kernel) zq151
theorem zq152 : (z_cd zm152).all (z_okE ztb znw zcls zms zm152) = true := by decide +kernel
theorem zp152 : z_okP ztb znw zcls zms zm152 := z_okP_of 11139 11138 142 1012 (z_codeIn (ch := 11) (i := 139) (l := tables_1_11) rfl rfl) (by decide +kernel) zq152
theorem zq153 : (z_cd zm153).all (z_okE ztb znw zcls zms zm153) = true := by decide +kernel
theorem zp153 : z_okP ztb znw zcls zms zm153 := z_okP_of 10207 10206 111 1012 (z_codeIn (ch := 10) (i := 207) (l := tables_1_10) rfl rfl) (by decide +kernel) zq153
theorem zq154 : (z_cd zm154).all (z_okE ztb znw zcls zms zm154) = true := by decide +kernel
theorem zp154 : z_okP ztb znw zcls zms zm154 := z_okP_of 12077 12075 12076 1012 (z_codeIn (ch := 12) (i := 77) (l := tables_1_12) rfl rfl) (by decide +kernel) zq154
theorem zq155_0 : (((z_cd zm155).drop 0).take 40).all (z_okE ztb znw zcls zms zm155) = true := by decide +kernel
theorem zq155_1 : (((z_cd zm155).drop 40).take 40).all (z_okE ztb znw zcls zms zm155) = true := by decide +kernel
theorem zq155_e2 : ((z_cd zm155).drop 80).all (z_okE ztb znw zcls zms zm155) = true := z_seg_end (by decide +kernel)
theorem zq155_e1 : ((z_cd zm155).drop 40).all (z_okE ztb znw zcls zms zm155) = true := z_seg (a := 40) (k := 40) zq155_1 zq155_e2
theorem zq155_e0 : ((z_cd zm155).drop 0).all (z_okE ztb znw zcls zms zm155) = true := z_seg (a := 0) (k := 40) zq155_0 zq155_e1
theorem zq155 : (z_cd zm155).all (z_okE ztb znw zcls zms zm155) = true := z_seg0 zq155_e0
theorem zp155 : z_okP ztb znw zcls zms zm155 := z_okP_of 12153 12151 12152 1012 (z_codeIn (ch := 12) (i := 153) (l := tables_1_12) rfl rfl) (by decide +kernel) zq155
