theorem zq156 : (z_cd zm156).all (z_okE ztb znw zcls zms zm156) = true := by decide +kernel
theorem zp156 : z_okP ztb znw zcls zms zm156 := z_okP_of 11196 11195 150 1012 (z_codeIn (ch := 11) (i := 196) (l := tables_1_11) rfl rfl) (by decide +kernel) zq156
theorem zq157 : (z_cd zm157).all (z_okE ztb znw zcls zms zm157) = true := by decide +kernel
theorem zp157 : z_okP ztb znw zcls zms zm157 := z_okP_of 11208 11206 11207 1012 (z_codeIn (ch := 11) (i := 208) (l := tables_1_11) rfl rfl) (by decide +kernel) zq157
theorem zq158 : (z_cd zm158).all (z_okE ztb znw zcls zms zm158) = true := by decide +kernel
theorem zp158 : z_okP ztb znw zcls zms zm158 := z_okP_of 12189 12187 12188 1012 (z_codeIn (ch := 12) (i := 189) (l := tables_1_12) rfl rfl) (by decide +kernel) zq158
theorem zq159 : (z_cd zm159).all (z_okE ztb znw zcls zms zm159) = true := by decide +kernel
theorem zp159 : z_okP ztb znw zcls zms zm159 := z_okP_of 11151 11149 11150 1012 (z_codeIn (ch := 11) (i := 151) (l := tables_1_11) rfl rfl) (by decide +kernel) zq159
theorem zq160_0 : (((z_cd zm160).drop 0).take 40).all (z_okE ztb znw zcls zms zm160) = true := by decide +kernel
theorem zq160_1 : (((z_cd zm160).drop 40).take 40).all (z_okE ztb znw zcls zms zm160) = true := by decide +kernel
theorem zq160_e2 : ((z_cd zm160).drop 80).all (z_okE ztb znw zcls zms zm160) = true := z_seg_end (by decide +kernel)
theorem zq160_e1 : ((z_cd zm160).drop 40).all (z_okE ztb znw zcls zms zm160) = true := z_seg (a := 40) (k := 40) zq160_1 zq160_e2
theorem zq160_e0 : ((z_cd zm160).drop 0).all (z_okE ztb znw zcls zms zm160) = true := z_seg (a := 0) (k := 40) zq160_0 zq160_e1
theorem zq160 : (z_cd zm160).all (z_okE ztb znw zcls zms zm160) = true := z_seg0 zq160_e0
theorem zp160 : z_okP ztb znw zcls zms zm160 := z_okP_of 12219 12217 12218 1012 (z_codeIn (ch := 12) (i := 219) (l := tables_1_12) rfl rfl) (by decide +kernel) zq160
theorem zq161_0 : (((z_cd zm161).drop 0).take 40).all (z_okE ztb znw zcls zms zm161) = true := by decide +kernel
theorem zq161_1 : (((z_cd zm161).drop 40).take 40).all (z_okE ztb znw zcls zms zm161) = true := by decide +kernel
theorem zq161_e2 : ((z_cd zm161).drop 80).all (z_okE ztb znw zcls zms zm161) = true := z_seg_end (by decide +kernel)
theorem zq161_e1 : ((z_cd zm161).drop 40).all (z_okE ztb znw zcls zms zm161) = true := z_seg (a := 40) (k := 40) zq161_1 zq161_e2
theorem zq161_e0 : ((z_cd zm161).drop 0).all (z_okE ztb znw zcls zms zm161) = true := z_seg (a := 0) (k := 40) zq161_0 zq161_e1
theorem zq161 : (z_cd zm161).all (z_okE ztb znw zcls zms zm161) = true := z_seg0 zq161_e0
theorem zp161 : z_okP ztb znw zcls zms zm161 := z_okP_of 10091 10090 89 1012 (z_codeIn (ch := 10) (i := 91) (l := tables_1_10) rfl rfl) (by decide +kernel) zq161
theorem zq162 : (z_cd zm162).all (z_okE ztb znw zcls zms zm162) = true := by decide +kernel
theorem zp162 : z_okP ztb znw zcls zms zm162 := z_okP_of 10113 10112 93 1012 (z_codeIn (ch := 10) (i := 113) (l := tables_1_10) rfl rfl) (by decide +kernel) zq162
theorem zq163 : (z_cd zm163).all (z_okE ztb znw zcls zms zm163) = true := by decide +kernel
theorem zp163 : z_okP ztb znw zcls zms zm163 := z_okP_of 10087 10086 88 1012 (z_codeIn (ch := 10) (i := 87) (l := tables_1_10) rfl rfl) (by decide +kernel) zq163
theorem zq164 : (z_cd zm164).all (z_okE ztb znw zcls zms zm164) = true := by decide +kernel
theorem zp164 : z_okP ztb znw zcls zms zm164 := z_okP_of 10083 10081 10082 1012 (z_codeIn (ch := 10) (i := 83) (l := tables_1_10) rfl rfl) (by decide +kernel) zq164
theorem zq165 : (z_cd zm165).all (z_okE ztb znw zcls zms zm165) = true := by decide +kernel
theorem zp165 : z_okP ztb znw zcls zms zm165 := z_okP_of 11123 11121 11122 1012 (z_codeIn (ch := 11) (i := 123) (l := tables_1_11) rfl rfl) (by decide +kernel) zq165
theorem zq166 : (z_cd zm166).all (z_okE ztb znw zcls zms zm166) = true := by decide +kernel
theorem zp166 : z_okP ztb znw zcls zms zm166 := z_okP_of 12185 12183 12184 1012 (z_codeIn (ch := 12) (i := 185) (l := tables_1_12) rfl rfl) (by decide +kernel) zq166
theorem zq167 : (z_cd zm167).all (z_okE ztb znw zcls zms zm167) = true := by decide +kernel
theorem zp167 : z_okP ztb znw zcls zms zm167 := z_okP_of 12207 12205 12206 1012 (z_codeIn (ch := 12) (i := 207) (l := tables_1_12) rfl rfl) (by decide +kernel) zq167
theorem zq168 : (z_cd zm168).all (z_okE ztb znw zcls zms zm168) = true := by decide +kernel
theorem zp168 : z_okP ztb znw zcls zms zm168 := z_okP_of 10191 10189 10190 1012 (z_codeIn (ch := 10) (i := 191) (l := tables_1_10) rfl rfl) (by decide +kernel) zq168
theorem zq169 : (z_cd zm169).all (z_okE ztb znw zcls zms zm169) = true := by decide +kernel
theorem zp169 : z_okP ztb znw zcls zms zm169 := z_okP_of 11119 11117 11118 1012 (z_codeIn (ch := 11) (i := 119) (l := tables_1_11) rfl rfl) (by decide +kernel) zq169
theorem zq170 : (z_cd zm170).all (z_okE ztb znw zcls zms zm170) = true := by decide +kernel
theorem zp170 : z_okP ztb znw zcls zms zm170 := z_okP_of 12085 12084 176 1012 (z_codeIn (ch := 12) (i := 85) (l := tables_1_12) rfl rfl) (by decide +kernel) zq170
theorem zq171 : (z_cd zm171).all (z_okE ztb znw zcls zms zm171) = true := by decide +kernel
theorem zp171 : z_okP ztb znw zcls zms zm171 := z_okP_of 12081 12079 12080 1012 (z_codeIn (ch := 12) (i := 81) (l := tables_1_12) rfl rfl) (by decide +kernel) zq171
theorem zq172 : (z_cd zm172).all (z_okE ztb znw zcls zms zm172) = true := by decide +kernel
theorem zp172 : z_okP ztb znw zcls zms zm172 := z_okP_of 10211 10209 10210 1012 (z_codeIn (ch := 10) (i := 211) (l := tables_1_10) rfl rfl) (by decide +kernel) zq172
theorem zq173 : (z_cd zm173).all (z_okE ztb znw zcls zms zm173) = true := by decide +kernel
theorem zp173 : z_okP ztb znw zcls zms zm173 := z_okP_of 11131 11129 11130 1012 (z_codeIn (ch := 11) (i := 131) (l := tables_1_11) rfl rfl) (by decide +kernel) zq173
theorem zq174 : (z_cd zm174).all (z_okE ztb znw zcls zms zm174) = true := by decide +kernel
theorem zp174 : z_okP ztb znw zcls zms zm174 := z_okP_of 10223 10221 10222 1012 (z_codeIn (ch := 10) (i := 223) (l := tables_1_10) rfl rfl) (by decide +kernel) zq174
theorem zq175 : (z_cd zm175).all (z_okE ztb znw zcls zms zm175) = true := by decide +kernel
theorem zp175 : z_okP ztb znw zcls zms zm175 := z_okP_of 10219 10217 10218 1012 (z_codeIn (ch := 10) (i := 219) (l := tables_1_10) rfl rfl) (by decide +kernel) zq175
theorem zq176 : (z_cd zm176).all (z_okE ztb znw zcls zms zm176) = true := by decide +kernel
theorem zp176 : z_okP ztb znw zcls zms zm176 := z_okP_of 12145 12143 12144 1012 (z_codeIn (ch := 12) (i := 145) (l := tables_1_12) rfl rfl) (by decide +kernel) zq176
theorem zq177 : (z_cd zm177).all (z_okE ztb znw zcls zms zm177) = true := by decide +kernel
theorem zp177 : z_okP ztb znw zcls zms zm177 := z_okP_of 10195 10193 10194 1012 (z_codeIn (ch := 10) (i := 195) (l := tables_1_10) rfl rfl) (by decide +kernel) zq177
theorem zq178 : (z_cd zm178).all (z_okE ztb znw zcls zms zm178) = true := by decide +kernel
theorem zp178 : z_okP ztb znw zcls zms zm178 := z_okP_of 11019 11017 11018 1012 (z_codeIn (ch := 11) (i := 19) (l := tables_1_11) rfl rfl) (by decide +kernel) zq178
theorem zq179 : (z_cd zm179).all (z_okE ztb znw zcls zms zm179) = true := by decide +kernel
theorem zp179 : z_okP ztb znw zcls zms zm179 := z_okP_of 10203 10201 10202 1012 (z_codeIn (ch := 10) (i := 203) (l := tables_1_10) rfl rfl) (by decide +kernel) zq179
theorem zq180 : (z_cd zm180).all (z_okE ztb znw zcls zms zm180) = true := by decide +kernel
theorem zp180 : z_okP ztb znw zcls zms zm180 := z_okP_of 11192 11190 11191 1012 (z_codeIn (ch := 11) (i := 192) (l := tables_1_11) rfl rfl) (by decide +kernel) zq180
theorem zq181 : (z_cd zm181).all (z_okE ztb znw zcls zms zm181) = true := by decide +kernel
theorem zp181 : z_okP ztb znw zcls zms zm181 := z_okP_of 12109 12107 12108 1012 (z_codeIn (ch := 12) (i := 109) (l := tables_1_12) rfl rfl) (by decide +kernel) zq181
theorem zq182 : (z_cd zm182).all (z_okE ztb znw zcls zms zm182) = true := by decide +kernel
theorem zp182 : z_okP ztb znw zcls zms zm182 := z_okP_of 12141 12139 12140 1012 (z_codeIn (ch := 12) (i := 141) (l := tables_1_12) rfl rfl) (by decide +kernel) zq182
theorem zq183 : (z_cd zm183).all (z_okE ztb znw zcls zms zm183) = true := by decide +kernel
theorem zp183 : z_okP ztb znw zcls zms zm183 := z_okP_of 12149 12147 12148 1012 (z_codeIn (ch := 12) (i := 149) (l := tables_1_12) rfl rfl) (by decide +kernel) zq183
theorem zq184_0 : (((z_cd zm184).drop 0).take 40).all (z_okE ztb znw zcls zms zm184) = true := by decide +kernel
theorem zq184_1 : (((z_cd zm184).drop 40).take 40).all (z_okE ztb znw zcls zms zm184) = true := by decide +kernel
theorem zq184_e2 : ((z_cd zm184).drop 80).all (z_okE ztb znw zcls zms zm184) = true := z_seg_end (by decide +kernel)
theorem zq184_e1 : ((z_cd zm184).drop 40).all (z_okE ztb znw zcls zms zm184) = true := z_seg (a := 40) (k := 40) zq184_1 zq184_e2
theorem zq184_e0 : ((z_cd zm184).drop 0).all (z_okE ztb znw zcls zms zm184) = true := z_seg (a := 0) (k := 40) zq184_0 zq184_e1
theorem zq184 : (z_cd zm184).all (z_okE ztb znw zcls zms zm184) = true := z_seg0 zq184_e0
theorem zp184 : z_okP ztb znw zcls zms zm184 := z_okP_of 12101 12099 12100 1012 (z_codeIn (ch := 12) (i := 101) (l := tables_1_12) rfl rfl) (by decide +kernel) zq184
theorem zq185 : (z_cd zm185).all (z_okE ztb znw zcls zms zm185) = true := by decide +kernel
theorem zp185 : z_okP ztb znw zcls zms zm185 := z_okP_of 11228 11226 11227 1012 (z_codeIn (ch := 11) (i := 228) (l := tables_1_11) rfl rfl) (by decide +kernel) zq185
